/-! ===== printed: the model: texts and shelves ===== -/
set_option maxRecDepth 100000 in
set_option maxHeartbeats 4000000 in
theorem c_m_useX1 {g : GP} {adr : Nat → Nat} (μ : Mem) {α : A7} (hMR₉ : MR μ α) {i : Nat} {x : Int32} (hi1₉ : i < 5) (hx₉ : x = 0 ∨ ¬ (-99 ≤ x ∧ x ≤ nI 99)) : CT g yX8_use mX8_use (RM 60 0 0) (WM g adr μ) [.ref (adr 237), .int (nI i), .int x] (PM g adr ((.inl (some (.int (nI 0))))) (fun μ' => MR μ' (α) ∧ μ' 237 6 = nI 2 ∧ FrM μ' μ)) := by
  refine CT.of (l0 := [some (.ref (adr 237)), some (.int (nI i)), some (.int x), none]) (by decide +kernel) rfl (Nat.le_of_ble_eq_true rfl) rfl ?_
  refine J.al0 dX8_use_0 ?_
  refine cl_X8_90 rfl (by decide) (k' := 0) (n' := 0) (c_m_keep _) ⟨⟨by decide, by decide⟩, ⟨rfl, rfl⟩, by decide, by decide⟩ rfl dX8_use_1 (fun μ2 ⟨hK₉, hT0₉, hs0₉, hk4₉⟩ => ?_)
  have hS2₉ : MS μ2 238 0 (qS α) := MS.off hMR₉.1 hs0₉
  have hn2₉ : μ2 237 5 = nI (qN α) := (hk4₉ 237 5 (by decide) (by decide)).trans hMR₉.2.1.1
  refine J.il1 dX8_use_4 ?_
  refine cl_X8_171 rfl (k' := 0) (n' := 0) (c_m_isShelfT _ (by omega)) ⟨⟨by decide, by decide⟩, ⟨rfl, rfl⟩, by decide, by decide⟩ rfl dX8_use_5 (fun μ9 h9₉ => ?_)
  rw [h9₉]; clear h9₉
  refine J.if_neN (tgt := 21) dX8_use_8 (by decide) (by omega) (fun c8₉ => ?_) (fun c8₉ => absurd c8₉ (by first | omega | (simp only [not_true_eq_false, not_false_eq_true]; done) | (simp; done)))
  refine J.il2 dX8_use_21 ?_
  refine J.if_eq (tgt := 36) dX8_use_22 (by decide) (fun c22₉ => ?_) (fun c22₉ => ?_)
  · refine J.al0 dX8_use_36 ?_
    refine J.al0 dX8_use_37 ?_
    refine J.iconst dX8_use_38 kI_2 ?_
    refine cl_X8_97 rfl (by decide) (k' := 0) (n' := 0) (c_m_fails _) ⟨⟨by decide, by decide⟩, ⟨rfl, rfl⟩, by decide, by decide⟩ rfl dX8_use_39 (fun μf hf₉ => ?_)
    refine cl_X8_100 rfl (by decide) (k' := 0) (n' := 0) (c_m_endsX _ (j := 2) (by rw [hf₉]; exact wr_s) (by decide) (by decide)) ⟨⟨by decide, by decide⟩, ⟨rfl, rfl⟩, by decide, by decide⟩ rfl dX8_use_42 (fun μe ⟨he1₉, he2₉⟩ => ?_)
    refine J.iret rfl (by decide) (by decide) dX8_use_45 ⟨_, rfl, ?_, ?_⟩
    · rfl
    · have hbk₉ := hMR₉.back (hK₉.step (by rw [hf₉]; exact KS.rf.wrx (by omega))) he1₉ he2₉
      exact ⟨hbk₉.1, by rw [he2₉ 237 (by decide), hf₉]; exact wr_s, hbk₉.2⟩
  · refine J.il2 dX8_use_25 ?_
    refine J.bipush (v := -99) dX8_use_26 (by decide) ?_
    refine J.bipush dX8_use_28 kb_99 ?_
    refine cl_X8_93 rfl (k' := 0) (n' := 0) (inF _ (hx₉.resolve_left c22₉)) ⟨⟨by decide, by decide⟩, ⟨rfl, rfl⟩, by decide, by decide⟩ rfl dX8_use_30 (fun μ9 h9₉ => ?_)
    rw [h9₉]; clear h9₉
    refine J.if_neN (tgt := 46) dX8_use_33 (by decide) (by omega) (fun c33₉ => absurd c33₉ (by first | omega | (simp only [not_true_eq_false, not_false_eq_true]; done) | (simp; done))) (fun c33₉ => ?_)
    refine J.al0 dX8_use_36 ?_
    refine J.al0 dX8_use_37 ?_
    refine J.iconst dX8_use_38 kI_2 ?_
    refine cl_X8_97 rfl (by decide) (k' := 0) (n' := 0) (c_m_fails _) ⟨⟨by decide, by decide⟩, ⟨rfl, rfl⟩, by decide, by decide⟩ rfl dX8_use_39 (fun μf hf₉ => ?_)
    refine cl_X8_100 rfl (by decide) (k' := 0) (n' := 0) (c_m_endsX _ (j := 2) (by rw [hf₉]; exact wr_s) (by decide) (by decide)) ⟨⟨by decide, by decide⟩, ⟨rfl, rfl⟩, by decide, by decide⟩ rfl dX8_use_42 (fun μe ⟨he1₉, he2₉⟩ => ?_)
    refine J.iret rfl (by decide) (by decide) dX8_use_45 ⟨_, rfl, ?_, ?_⟩
    · rfl
    · have hbk₉ := hMR₉.back (hK₉.step (by rw [hf₉]; exact KS.rf.wrx (by omega))) he1₉ he2₉
      exact ⟨hbk₉.1, by rw [he2₉ 237 (by decide), hf₉]; exact wr_s, hbk₉.2⟩

set_option maxRecDepth 100000 in
set_option maxHeartbeats 4000000 in
theorem c_m_useX2p {g : GP} {adr : Nat → Nat} (μ : Mem) {α : A7} (hMR₉ : MR μ α) {i t : Nat} (hi1₉ : i < 5) (ht1₉ : 1 ≤ t) (ht2₉ : t ≤ 99) (hx₉ : ¬ aFl (qS α) i = true) : CT g yX8_use mX8_use (RM 60 0 0) (WM g adr μ) [.ref (adr 237), .int (nI i), .int (nI t)] (PM g adr ((.inl (some (.int (nI 0))))) (fun μ' => MR μ' (aRef 3 i α) ∧ μ' 237 6 = nI 3 ∧ FrM μ' μ)) := by
  refine CT.of (l0 := [some (.ref (adr 237)), some (.int (nI i)), some (.int (nI t)), none]) (by decide +kernel) rfl (Nat.le_of_ble_eq_true rfl) rfl ?_
  refine J.al0 dX8_use_0 ?_
  refine cl_X8_90 rfl (by decide) (k' := 0) (n' := 0) (c_m_keep _) ⟨⟨by decide, by decide⟩, ⟨rfl, rfl⟩, by decide, by decide⟩ rfl dX8_use_1 (fun μ2 ⟨hK₉, hT0₉, hs0₉, hk4₉⟩ => ?_)
  have hS2₉ : MS μ2 238 0 (qS α) := MS.off hMR₉.1 hs0₉
  have hn2₉ : μ2 237 5 = nI (qN α) := (hk4₉ 237 5 (by decide) (by decide)).trans hMR₉.2.1.1
  refine J.il1 dX8_use_4 ?_
  refine cl_X8_171 rfl (k' := 0) (n' := 0) (c_m_isShelfT _ (by omega)) ⟨⟨by decide, by decide⟩, ⟨rfl, rfl⟩, by decide, by decide⟩ rfl dX8_use_5 (fun μ9 h9₉ => ?_)
  rw [h9₉]; clear h9₉
  refine J.if_neN (tgt := 21) dX8_use_8 (by decide) (by omega) (fun c8₉ => ?_) (fun c8₉ => absurd c8₉ (by first | omega | (simp only [not_true_eq_false, not_false_eq_true]; done) | (simp; done)))
  refine J.il2 dX8_use_21 ?_
  refine J.if_eqN (tgt := 36) dX8_use_22 (by decide) (by omega) (fun c22₉ => absurd c22₉ (by first | omega | (simp only [not_true_eq_false, not_false_eq_true]; done) | (simp; done))) (fun c22₉ => ?_)
  refine J.il2 dX8_use_25 ?_
  refine J.bipush (v := -99) dX8_use_26 (by decide) ?_
  refine J.bipush dX8_use_28 kb_99 ?_
  have hin₉ := c_in (g := g) (adr := adr) (μ2) (x := nI t) (a := -99) (b := nI 99)
  rw [if_pos (u99p ht1₉ ht2₉)] at hin₉
  refine cl_X8_93 rfl (k' := 0) (n' := 0) (hin₉) ⟨⟨by decide, by decide⟩, ⟨rfl, rfl⟩, by decide, by decide⟩ rfl dX8_use_30 (fun μ9 h9₉ => ?_)
  rw [h9₉]; clear h9₉
  refine J.if_neN (tgt := 46) dX8_use_33 (by decide) (by omega) (fun c33₉ => ?_) (fun c33₉ => absurd c33₉ (by first | omega | (simp only [not_true_eq_false, not_false_eq_true]; done) | (simp; done)))
  refine J.al0 dX8_use_46 ?_
  refine J.il1 dX8_use_47 ?_
  refine cl_X8_177 rfl (by decide) (k' := 0) (n' := 0) (c_m_isEmptyT _ hS2₉ (by omega) hx₉) ⟨⟨by decide, by decide⟩, ⟨rfl, rfl⟩, by decide, by decide⟩ rfl dX8_use_48 (fun μ9 h9₉ => ?_)
  rw [h9₉]; clear h9₉
  refine J.if_eqN (tgt := 66) dX8_use_51 (by decide) (by omega) (fun c51₉ => absurd c51₉ (by first | omega | (simp only [not_true_eq_false, not_false_eq_true]; done) | (simp; done))) (fun c51₉ => ?_)
  refine J.al0 dX8_use_54 ?_
  refine J.al0 dX8_use_55 ?_
  refine J.iconst dX8_use_56 kI_3 ?_
  refine J.iconst dX8_use_57 kI_3 ?_
  refine J.il1 dX8_use_58 ?_
  refine cl_X8_110 rfl (by decide) (k' := 0) (n' := 0) (c_m_refuse _) ⟨⟨by decide, by decide⟩, ⟨rfl, rfl⟩, by decide, by decide⟩ rfl dX8_use_59 (fun μf hf₉ => ?_)
  refine cl_X8_100 rfl (by decide) (k' := 0) (n' := 0) (c_m_endsX _ (j := 3) (by rw [hf₉]; exact (wr_n (by decide)).trans ((wr_n (by decide)).trans wr_s)) (by decide) (by decide)) ⟨⟨by decide, by decide⟩, ⟨rfl, rfl⟩, by decide, by decide⟩ rfl dX8_use_62 (fun μe ⟨he1₉, he2₉⟩ => ?_)
  refine J.iret rfl (by decide) (by decide) dX8_use_65 ⟨_, rfl, ?_, ?_⟩
  · rfl
  · have hbk₉ := (hMR₉.ref (a := 3) (d := i) (by decide) (by decide)).back (μ := μf) (by rw [hf₉]; exact KP.fld (KP.fld (hK₉.step (KS.rf.wrx (by omega))))) he1₉ he2₉
    exact ⟨hbk₉.1, by rw [he2₉ 237 (by decide), hf₉]; exact (wr_n (by decide)).trans ((wr_n (by decide)).trans wr_s), hbk₉.2.trans ((FrM.rf.wrx (by decide)).wrx (by decide))⟩

set_option maxRecDepth 100000 in
set_option maxHeartbeats 4000000 in
theorem c_m_useOkp {g : GP} {adr : Nat → Nat} (μ : Mem) {α : A7} (hMR₉ : MR μ α) {i t : Nat} (hi1₉ : i < 5) (ht1₉ : 1 ≤ t) (ht2₉ : t ≤ 99) (hfi₉ : aFl (qS α) i = true) : CT g yX8_use mX8_use (RM 60 0 0) (WM g adr μ) [.ref (adr 237), .int (nI i), .int (nI t)] (PM g adr ((.inl (some (.int (nI (cnt (fun s => decide (aAt (sLen 0 (sDo (iter (aSh (qS α) i) t) (qS α))) s = s)) 32)))))) (fun μ' => MR μ' (aPush (sLen 0 (sDo (iter (aSh (qS α) i) t) (qS α))) α) ∧ μ' 237 6 = nI 0 ∧ FrM μ' μ)) := by
  refine CT.of (l0 := [some (.ref (adr 237)), some (.int (nI i)), some (.int (nI t)), none]) (by decide +kernel) rfl (Nat.le_of_ble_eq_true rfl) rfl ?_
  have hBS₉ : Bij (aSh (qS α) i) := hMR₉.1.vs.2.2.2.2 i hi1₉ hfi₉
  have hBP₉ : Bij (iter (aSh (qS α) i) t) := Bij.iter (hBS₉) t
  refine J.al0 dX8_use_0 ?_
  refine cl_X8_90 rfl (by decide) (k' := 0) (n' := 0) (c_m_keep _) ⟨⟨by decide, by decide⟩, ⟨rfl, rfl⟩, by decide, by decide⟩ rfl dX8_use_1 (fun μ2 ⟨hK₉, hT0₉, hs0₉, hk4₉⟩ => ?_)
  have hS2₉ : MS μ2 238 0 (qS α) := MS.off hMR₉.1 hs0₉
  have hn2₉ : μ2 237 5 = nI (qN α) := (hk4₉ 237 5 (by decide) (by decide)).trans hMR₉.2.1.1
  refine J.il1 dX8_use_4 ?_
  refine cl_X8_171 rfl (k' := 0) (n' := 0) (c_m_isShelfT _ (by omega)) ⟨⟨by decide, by decide⟩, ⟨rfl, rfl⟩, by decide, by decide⟩ rfl dX8_use_5 (fun μ9 h9₉ => ?_)
  rw [h9₉]; clear h9₉
  refine J.if_neN (tgt := 21) dX8_use_8 (by decide) (by omega) (fun c8₉ => ?_) (fun c8₉ => absurd c8₉ (by first | omega | (simp only [not_true_eq_false, not_false_eq_true]; done) | (simp; done)))
  refine J.il2 dX8_use_21 ?_
  refine J.if_eqN (tgt := 36) dX8_use_22 (by decide) (by omega) (fun c22₉ => absurd c22₉ (by first | omega | (simp only [not_true_eq_false, not_false_eq_true]; done) | (simp; done))) (fun c22₉ => ?_)
  refine J.il2 dX8_use_25 ?_
  refine J.bipush (v := -99) dX8_use_26 (by decide) ?_
  refine J.bipush dX8_use_28 kb_99 ?_
  have hin₉ := c_in (g := g) (adr := adr) (μ2) (x := nI t) (a := -99) (b := nI 99)
  rw [if_pos (u99p ht1₉ ht2₉)] at hin₉
  refine cl_X8_93 rfl (k' := 0) (n' := 0) (hin₉) ⟨⟨by decide, by decide⟩, ⟨rfl, rfl⟩, by decide, by decide⟩ rfl dX8_use_30 (fun μ9 h9₉ => ?_)
  rw [h9₉]; clear h9₉
  refine J.if_neN (tgt := 46) dX8_use_33 (by decide) (by omega) (fun c33₉ => ?_) (fun c33₉ => absurd c33₉ (by first | omega | (simp only [not_true_eq_false, not_false_eq_true]; done) | (simp; done)))
  refine J.al0 dX8_use_46 ?_
  refine J.il1 dX8_use_47 ?_
  refine cl_X8_177 rfl (by decide) (k' := 0) (n' := 0) (c_m_isEmptyF _ hS2₉ (by omega) hfi₉) ⟨⟨by decide, by decide⟩, ⟨rfl, rfl⟩, by decide, by decide⟩ rfl dX8_use_48 (fun μ9 h9₉ => ?_)
  rw [h9₉]; clear h9₉
  refine J.if_eqN (tgt := 66) dX8_use_51 (by decide) (by omega) (fun c51₉ => ?_) (fun c51₉ => absurd c51₉ (by first | omega | (simp only [not_true_eq_false, not_false_eq_true]; done) | (simp; done)))
  refine J.al0 dX8_use_66 ?_
  refine J.iconst dX8_use_67 kI_0 ?_
  refine pf_X8_60 rfl (by decide) dX8_use_68 ?_
  refine J.al0 dX8_use_71 ?_
  refine J.il1 dX8_use_72 ?_
  refine cl_X8_159 rfl (by decide) (k' := 0) (n' := 0) (c_m_ofShelf _ (r := 0) wr_s (by decide) hi1₉ (fun k hk₉ => by rw [wr_o (by decide)]; exact hS2₉.rSh hi1₉ hfi₉ hk₉) hBS₉) ⟨⟨by decide, by decide⟩, ⟨rfl, rfl⟩, by decide, by decide⟩ rfl dX8_use_73 (fun μ3 ⟨hP3₉, hc3₉, hr3₉, hF3₉⟩ => ?_)
  have hKT3₉ : KT μ3 μ2 := KT.trans hF3₉.kt (KT.wrx KT.rf (by omega))
  refine J.is3 dX8_use_76 (by decide) rfl ?_
  refine J.al0 dX8_use_77 ?_
  refine J.il2 dX8_use_78 ?_
  refine J.if_geN (tgt := 96) dX8_use_79 (by decide) (by omega) (fun c79₉ => ?_) (fun c79₉ => c79₉.elim)
  refine J.al0 dX8_use_96 ?_
  refine J.il3 dX8_use_97 ?_
  refine J.il2 dX8_use_98 ?_
  refine cl_X8_71 rfl (by decide) (k' := 0) (n' := 0) (c_m_times _ (r := 1) (c := 1) hr3₉ (by decide) (by decide) (by omega) hP3₉ hc3₉) ⟨⟨by decide, by decide⟩, ⟨rfl, rfl⟩, by decide, by decide⟩ rfl dX8_use_99 (fun μ5 ⟨hP5₉, hc5₉, hr5₉, hF5₉⟩ => ?_)
  have hKT5₉ : KT μ5 μ2 := hF5₉.kt.trans hKT3₉
  have hs5₉ : μ5 238 = μ2 238 := by rw [hF5₉.s, hF3₉.s, wr_o (by decide)]
  have hS5₉ : MS μ5 238 0 (qS α) := hS2₉.off hs5₉
  refine cl_X8_86 rfl (by decide) (k' := 0) (n' := 0) (c_m_does _ (by decide) hP5₉ hBP₉ (f := aAt (qS α)) (fun k hk₉ => hS5₉.rAt hk₉)) ⟨⟨by decide, by decide⟩, ⟨rfl, rfl⟩, by decide, by decide⟩ rfl dX8_use_102 (fun μ6 ⟨hA6₉, hK6₉, hO6₉⟩ => ?_)
  have hS6₉ := hS5₉.sDo hBP₉ hA6₉ hK6₉
  have hKT6₉ : KT μ6 μ2 := fun o k a b c d e => by rw [hO6₉ o a d]; exact hKT5₉ o k a b c d e
  refine J.al0 dX8_use_105 ?_
  refine gf_X8_9 rfl (o2 := 238) (by decide) rfl dX8_use_106 ?_
  refine J.iconst dX8_use_109 kI_0 ?_
  refine J.iconst dX8_use_110 kI_0 ?_
  refine J.iast (N := 352) (by decide) (by decide) (by decide) (by omega) dX8_use_111 ?_
  refine J.al0 dX8_use_112 ?_
  refine J.al0 dX8_use_113 ?_
  have hS9₉ : MS (wr μ6 238 0 (nI 0)) 238 0 (sLen 0 (sDo (iter (aSh (qS α) i) t) (qS α))) := hS6₉.sLen (x := 0) (Nat.zero_le _) wr_s (fun k hk₉ => wr_n (Or.inr hk₉))
  refine cl_X8_107 rfl (by decide) (k' := 0) (n' := 0) (c_m_home _ (f := aAt (sLen 0 (sDo (iter (aSh (qS α) i) t) (qS α)))) (fun k hk₉ => hS9₉.rAt hk₉) (fun k hk₉ => hS9₉.vs.1.1 k hk₉)) ⟨⟨by decide, by decide⟩, ⟨rfl, rfl⟩, by decide, by decide⟩ rfl dX8_use_114 (fun μ9 h9₉ => ?_)
  rw [h9₉]; clear h9₉
  have hkt₉ : KT ((wr μ6 238 0 (nI 0))) μ2 := (KT.wrx hKT6₉ (by omega))
  have hT6₉ : ((wr μ6 238 0 (nI 0))) 237 6 = nI 0 := (hkt₉ 237 6 (by decide) (by decide) (by decide) (by decide) (by decide)).trans hT0₉
  have hn6₉ : ((wr μ6 238 0 (nI 0))) 237 5 = nI (qN α) := (hkt₉ 237 5 (by decide) (by decide) (by decide) (by decide) (by decide)).trans hn2₉
  refine cl_X8_100 rfl (by decide) (k' := 0) (n' := 0) (c_m_ends _ hT6₉ hn6₉ hMR₉.2.1.2.1) ⟨⟨by decide, by decide⟩, ⟨rfl, rfl⟩, by decide, by decide⟩ rfl dX8_use_117 (fun μe he₉ => ?_)
  refine J.iret rfl (by decide) (by decide) dX8_use_120 ⟨_, rfl, ?_, ?_⟩
  · rfl
  · have hpu₉ := hMR₉.push (hK₉.step hkt₉.ks) hS9₉ he₉
    exact ⟨hpu₉.1, (he₉.2.2 237 6 (by decide) (by decide)).trans hT6₉, hpu₉.2⟩

set_option maxRecDepth 100000 in
set_option maxHeartbeats 4000000 in
theorem c_m_useX2n {g : GP} {adr : Nat → Nat} (μ : Mem) {α : A7} (hMR₉ : MR μ α) {i t : Nat} (hi1₉ : i < 5) (ht1₉ : 1 ≤ t) (ht2₉ : t ≤ 99) (hx₉ : ¬ aFl (qS α) i = true) : CT g yX8_use mX8_use (RM 60 0 0) (WM g adr μ) [.ref (adr 237), .int (nI i), .int (-(nI t))] (PM g adr ((.inl (some (.int (nI 0))))) (fun μ' => MR μ' (aRef 3 i α) ∧ μ' 237 6 = nI 3 ∧ FrM μ' μ)) := by
  refine CT.of (l0 := [some (.ref (adr 237)), some (.int (nI i)), some (.int (-(nI t))), none]) (by decide +kernel) rfl (Nat.le_of_ble_eq_true rfl) rfl ?_
  refine J.al0 dX8_use_0 ?_
  refine cl_X8_90 rfl (by decide) (k' := 0) (n' := 0) (c_m_keep _) ⟨⟨by decide, by decide⟩, ⟨rfl, rfl⟩, by decide, by decide⟩ rfl dX8_use_1 (fun μ2 ⟨hK₉, hT0₉, hs0₉, hk4₉⟩ => ?_)
  have hS2₉ : MS μ2 238 0 (qS α) := MS.off hMR₉.1 hs0₉
  have hn2₉ : μ2 237 5 = nI (qN α) := (hk4₉ 237 5 (by decide) (by decide)).trans hMR₉.2.1.1
  refine J.il1 dX8_use_4 ?_
  refine cl_X8_171 rfl (k' := 0) (n' := 0) (c_m_isShelfT _ (by omega)) ⟨⟨by decide, by decide⟩, ⟨rfl, rfl⟩, by decide, by decide⟩ rfl dX8_use_5 (fun μ9 h9₉ => ?_)
  rw [h9₉]; clear h9₉
  refine J.if_neN (tgt := 21) dX8_use_8 (by decide) (by omega) (fun c8₉ => ?_) (fun c8₉ => absurd c8₉ (by first | omega | (simp only [not_true_eq_false, not_false_eq_true]; done) | (simp; done)))
  refine J.il2 dX8_use_21 ?_
  refine J.if_eq (tgt := 36) dX8_use_22 (by decide) (fun c22₉ => absurd c22₉ (n990 ht1₉ ht2₉)) (fun c22₉ => ?_)
  refine J.il2 dX8_use_25 ?_
  refine J.bipush (v := -99) dX8_use_26 (by decide) ?_
  refine J.bipush dX8_use_28 kb_99 ?_
  have hin₉ := c_in (g := g) (adr := adr) (μ2) (x := -(nI t)) (a := -99) (b := nI 99)
  rw [if_pos (u99n ht1₉ ht2₉)] at hin₉
  refine cl_X8_93 rfl (k' := 0) (n' := 0) (hin₉) ⟨⟨by decide, by decide⟩, ⟨rfl, rfl⟩, by decide, by decide⟩ rfl dX8_use_30 (fun μ9 h9₉ => ?_)
  rw [h9₉]; clear h9₉
  refine J.if_neN (tgt := 46) dX8_use_33 (by decide) (by omega) (fun c33₉ => ?_) (fun c33₉ => absurd c33₉ (by first | omega | (simp only [not_true_eq_false, not_false_eq_true]; done) | (simp; done)))
  refine J.al0 dX8_use_46 ?_
  refine J.il1 dX8_use_47 ?_
  refine cl_X8_177 rfl (by decide) (k' := 0) (n' := 0) (c_m_isEmptyT _ hS2₉ (by omega) hx₉) ⟨⟨by decide, by decide⟩, ⟨rfl, rfl⟩, by decide, by decide⟩ rfl dX8_use_48 (fun μ9 h9₉ => ?_)
  rw [h9₉]; clear h9₉
  refine J.if_eqN (tgt := 66) dX8_use_51 (by decide) (by omega) (fun c51₉ => absurd c51₉ (by first | omega | (simp only [not_true_eq_false, not_false_eq_true]; done) | (simp; done))) (fun c51₉ => ?_)
  refine J.al0 dX8_use_54 ?_
  refine J.al0 dX8_use_55 ?_
  refine J.iconst dX8_use_56 kI_3 ?_
  refine J.iconst dX8_use_57 kI_3 ?_
  refine J.il1 dX8_use_58 ?_
  refine cl_X8_110 rfl (by decide) (k' := 0) (n' := 0) (c_m_refuse _) ⟨⟨by decide, by decide⟩, ⟨rfl, rfl⟩, by decide, by decide⟩ rfl dX8_use_59 (fun μf hf₉ => ?_)
  refine cl_X8_100 rfl (by decide) (k' := 0) (n' := 0) (c_m_endsX _ (j := 3) (by rw [hf₉]; exact (wr_n (by decide)).trans ((wr_n (by decide)).trans wr_s)) (by decide) (by decide)) ⟨⟨by decide, by decide⟩, ⟨rfl, rfl⟩, by decide, by decide⟩ rfl dX8_use_62 (fun μe ⟨he1₉, he2₉⟩ => ?_)
  refine J.iret rfl (by decide) (by decide) dX8_use_65 ⟨_, rfl, ?_, ?_⟩
  · rfl
  · have hbk₉ := (hMR₉.ref (a := 3) (d := i) (by decide) (by decide)).back (μ := μf) (by rw [hf₉]; exact KP.fld (KP.fld (hK₉.step (KS.rf.wrx (by omega))))) he1₉ he2₉
    exact ⟨hbk₉.1, by rw [he2₉ 237 (by decide), hf₉]; exact (wr_n (by decide)).trans ((wr_n (by decide)).trans wr_s), hbk₉.2.trans ((FrM.rf.wrx (by decide)).wrx (by decide))⟩

set_option maxRecDepth 100000 in
set_option maxHeartbeats 4000000 in
theorem c_m_useOkn {g : GP} {adr : Nat → Nat} (μ : Mem) {α : A7} (hMR₉ : MR μ α) {i t : Nat} (hi1₉ : i < 5) (ht1₉ : 1 ≤ t) (ht2₉ : t ≤ 99) (hfi₉ : aFl (qS α) i = true) : CT g yX8_use mX8_use (RM 60 0 0) (WM g adr μ) [.ref (adr 237), .int (nI i), .int (-(nI t))] (PM g adr ((.inl (some (.int (nI (cnt (fun s => decide (aAt (sLen 0 (sDo (iter (pinv (aSh (qS α) i)) t) (qS α))) s = s)) 32)))))) (fun μ' => MR μ' (aPush (sLen 0 (sDo (iter (pinv (aSh (qS α) i)) t) (qS α))) α) ∧ μ' 237 6 = nI 0 ∧ FrM μ' μ)) := by
  refine CT.of (l0 := [some (.ref (adr 237)), some (.int (nI i)), some (.int (-(nI t))), none]) (by decide +kernel) rfl (Nat.le_of_ble_eq_true rfl) rfl ?_
  have hBS₉ : Bij (aSh (qS α) i) := hMR₉.1.vs.2.2.2.2 i hi1₉ hfi₉
  have hBP₉ : Bij (iter (pinv (aSh (qS α) i)) t) := Bij.iter (hBS₉.pinv) t
  refine J.al0 dX8_use_0 ?_
  refine cl_X8_90 rfl (by decide) (k' := 0) (n' := 0) (c_m_keep _) ⟨⟨by decide, by decide⟩, ⟨rfl, rfl⟩, by decide, by decide⟩ rfl dX8_use_1 (fun μ2 ⟨hK₉, hT0₉, hs0₉, hk4₉⟩ => ?_)
  have hS2₉ : MS μ2 238 0 (qS α) := MS.off hMR₉.1 hs0₉
  have hn2₉ : μ2 237 5 = nI (qN α) := (hk4₉ 237 5 (by decide) (by decide)).trans hMR₉.2.1.1
  refine J.il1 dX8_use_4 ?_
  refine cl_X8_171 rfl (k' := 0) (n' := 0) (c_m_isShelfT _ (by omega)) ⟨⟨by decide, by decide⟩, ⟨rfl, rfl⟩, by decide, by decide⟩ rfl dX8_use_5 (fun μ9 h9₉ => ?_)
  rw [h9₉]; clear h9₉
  refine J.if_neN (tgt := 21) dX8_use_8 (by decide) (by omega) (fun c8₉ => ?_) (fun c8₉ => absurd c8₉ (by first | omega | (simp only [not_true_eq_false, not_false_eq_true]; done) | (simp; done)))
  refine J.il2 dX8_use_21 ?_
  refine J.if_eq (tgt := 36) dX8_use_22 (by decide) (fun c22₉ => absurd c22₉ (n990 ht1₉ ht2₉)) (fun c22₉ => ?_)
  refine J.il2 dX8_use_25 ?_
  refine J.bipush (v := -99) dX8_use_26 (by decide) ?_
  refine J.bipush dX8_use_28 kb_99 ?_
  have hin₉ := c_in (g := g) (adr := adr) (μ2) (x := -(nI t)) (a := -99) (b := nI 99)
  rw [if_pos (u99n ht1₉ ht2₉)] at hin₉
  refine cl_X8_93 rfl (k' := 0) (n' := 0) (hin₉) ⟨⟨by decide, by decide⟩, ⟨rfl, rfl⟩, by decide, by decide⟩ rfl dX8_use_30 (fun μ9 h9₉ => ?_)
  rw [h9₉]; clear h9₉
  refine J.if_neN (tgt := 46) dX8_use_33 (by decide) (by omega) (fun c33₉ => ?_) (fun c33₉ => absurd c33₉ (by first | omega | (simp only [not_true_eq_false, not_false_eq_true]; done) | (simp; done)))
  refine J.al0 dX8_use_46 ?_
  refine J.il1 dX8_use_47 ?_
  refine cl_X8_177 rfl (by decide) (k' := 0) (n' := 0) (c_m_isEmptyF _ hS2₉ (by omega) hfi₉) ⟨⟨by decide, by decide⟩, ⟨rfl, rfl⟩, by decide, by decide⟩ rfl dX8_use_48 (fun μ9 h9₉ => ?_)
  rw [h9₉]; clear h9₉
  refine J.if_eqN (tgt := 66) dX8_use_51 (by decide) (by omega) (fun c51₉ => ?_) (fun c51₉ => absurd c51₉ (by first | omega | (simp only [not_true_eq_false, not_false_eq_true]; done) | (simp; done)))
  refine J.al0 dX8_use_66 ?_
  refine J.iconst dX8_use_67 kI_0 ?_
  refine pf_X8_60 rfl (by decide) dX8_use_68 ?_
  refine J.al0 dX8_use_71 ?_
  refine J.il1 dX8_use_72 ?_
  refine cl_X8_159 rfl (by decide) (k' := 0) (n' := 0) (c_m_ofShelf _ (r := 0) wr_s (by decide) hi1₉ (fun k hk₉ => by rw [wr_o (by decide)]; exact hS2₉.rSh hi1₉ hfi₉ hk₉) hBS₉) ⟨⟨by decide, by decide⟩, ⟨rfl, rfl⟩, by decide, by decide⟩ rfl dX8_use_73 (fun μ3 ⟨hP3₉, hc3₉, hr3₉, hF3₉⟩ => ?_)
  have hKT3₉ : KT μ3 μ2 := KT.trans hF3₉.kt (KT.wrx KT.rf (by omega))
  refine J.is3 dX8_use_76 (by decide) rfl ?_
  refine J.al0 dX8_use_77 ?_
  refine J.il2 dX8_use_78 ?_
  refine J.if_ge (tgt := 96) dX8_use_79 (by decide) (fun c79₉ => absurd c79₉ (n99 (by omega) (by omega))) (fun c79₉ => ?_)
  refine J.al0 dX8_use_82 ?_
  refine J.al0 dX8_use_83 ?_
  refine J.il3 dX8_use_84 ?_
  refine cl_X8_75 rfl (by decide) (k' := 0) (n' := 0) (c_m_inverse _ (r := 1) (x := nI 1) hr3₉ (by decide) (by decide) hP3₉ hBS₉ hc3₉) ⟨⟨by decide, by decide⟩, ⟨rfl, rfl⟩, by decide, by decide⟩ rfl dX8_use_85 (fun μ4 ⟨hP4₉, hc4₉, hr4₉, hF4₉⟩ => ?_)
  have hKT4₉ : KT μ4 μ2 := hF4₉.kt.trans hKT3₉
  refine J.il2 dX8_use_88 ?_
  refine J.ineg dX8_use_89 rfl ?_
  rw [Int32.neg_neg]
  refine cl_X8_71 rfl (by decide) (k' := 0) (n' := 0) (c_m_times _ (r := 2) (c := 1) hr4₉ (by decide) (by decide) (by omega) hP4₉ hc4₉) ⟨⟨by decide, by decide⟩, ⟨rfl, rfl⟩, by decide, by decide⟩ rfl dX8_use_90 (fun μ5 ⟨hP5₉, hc5₉, hr5₉, hF5₉⟩ => ?_)
  have hKT5₉ : KT μ5 μ2 := hF5₉.kt.trans hKT4₉
  refine J.goto (tgt := 102) dX8_use_93 (by decide) ?_
  have hs5₉ : μ5 238 = μ2 238 := by rw [hF5₉.s, hF4₉.s, hF3₉.s, wr_o (by decide)]
  have hS5₉ : MS μ5 238 0 (qS α) := hS2₉.off hs5₉
  refine cl_X8_86 rfl (by decide) (k' := 0) (n' := 0) (c_m_does _ (by decide) hP5₉ hBP₉ (f := aAt (qS α)) (fun k hk₉ => hS5₉.rAt hk₉)) ⟨⟨by decide, by decide⟩, ⟨rfl, rfl⟩, by decide, by decide⟩ rfl dX8_use_102 (fun μ6 ⟨hA6₉, hK6₉, hO6₉⟩ => ?_)
  have hS6₉ := hS5₉.sDo hBP₉ hA6₉ hK6₉
  have hKT6₉ : KT μ6 μ2 := fun o k a b c d e => by rw [hO6₉ o a d]; exact hKT5₉ o k a b c d e
  refine J.al0 dX8_use_105 ?_
  refine gf_X8_9 rfl (o2 := 238) (by decide) rfl dX8_use_106 ?_
  refine J.iconst dX8_use_109 kI_0 ?_
  refine J.iconst dX8_use_110 kI_0 ?_
  refine J.iast (N := 352) (by decide) (by decide) (by decide) (by omega) dX8_use_111 ?_
  refine J.al0 dX8_use_112 ?_
  refine J.al0 dX8_use_113 ?_
  have hS9₉ : MS (wr μ6 238 0 (nI 0)) 238 0 (sLen 0 (sDo (iter (pinv (aSh (qS α) i)) t) (qS α))) := hS6₉.sLen (x := 0) (Nat.zero_le _) wr_s (fun k hk₉ => wr_n (Or.inr hk₉))
  refine cl_X8_107 rfl (by decide) (k' := 0) (n' := 0) (c_m_home _ (f := aAt (sLen 0 (sDo (iter (pinv (aSh (qS α) i)) t) (qS α)))) (fun k hk₉ => hS9₉.rAt hk₉) (fun k hk₉ => hS9₉.vs.1.1 k hk₉)) ⟨⟨by decide, by decide⟩, ⟨rfl, rfl⟩, by decide, by decide⟩ rfl dX8_use_114 (fun μ9 h9₉ => ?_)
  rw [h9₉]; clear h9₉
  have hkt₉ : KT ((wr μ6 238 0 (nI 0))) μ2 := (KT.wrx hKT6₉ (by omega))
  have hT6₉ : ((wr μ6 238 0 (nI 0))) 237 6 = nI 0 := (hkt₉ 237 6 (by decide) (by decide) (by decide) (by decide) (by decide)).trans hT0₉
  have hn6₉ : ((wr μ6 238 0 (nI 0))) 237 5 = nI (qN α) := (hkt₉ 237 5 (by decide) (by decide) (by decide) (by decide) (by decide)).trans hn2₉
  refine cl_X8_100 rfl (by decide) (k' := 0) (n' := 0) (c_m_ends _ hT6₉ hn6₉ hMR₉.2.1.2.1) ⟨⟨by decide, by decide⟩, ⟨rfl, rfl⟩, by decide, by decide⟩ rfl dX8_use_117 (fun μe he₉ => ?_)
  refine J.iret rfl (by decide) (by decide) dX8_use_120 ⟨_, rfl, ?_, ?_⟩
  · rfl
  · have hpu₉ := hMR₉.push (hK₉.step hkt₉.ks) hS9₉ he₉
    exact ⟨hpu₉.1, (he₉.2.2 237 6 (by decide) (by decide)).trans hT6₉, hpu₉.2⟩

set_option maxRecDepth 100000 in
set_option maxHeartbeats 4000000 in
theorem c_m_joinX0 {g : GP} {adr : Nat → Nat} (μ : Mem) {α : A7} (hMR₉ : MR μ α) {i : Int32} (hx₉ : ¬ (0 ≤ i ∧ i < nI 5)) {j : Int32} {k : Int32} : CT g yX8_join mX8_join (RM 60 0 0) (WM g adr μ) [.ref (adr 237), .int i, .int j, .int k] (PM g adr ((.inl (some (.int (nI 0))))) (fun μ' => MR μ' (α) ∧ μ' 237 6 = nI 1 ∧ FrM μ' μ)) := by
  refine CT.of (l0 := [some (.ref (adr 237)), some (.int i), some (.int j), some (.int k), none]) (by decide +kernel) rfl (Nat.le_of_ble_eq_true rfl) rfl ?_
  refine J.al0 dX8_join_0 ?_
  refine cl_X8_90 rfl (by decide) (k' := 0) (n' := 0) (c_m_keep _) ⟨⟨by decide, by decide⟩, ⟨rfl, rfl⟩, by decide, by decide⟩ rfl dX8_join_1 (fun μ2 ⟨hK₉, hT0₉, hs0₉, hk4₉⟩ => ?_)
  have hS2₉ : MS μ2 238 0 (qS α) := MS.off hMR₉.1 hs0₉
  have hn2₉ : μ2 237 5 = nI (qN α) := (hk4₉ 237 5 (by decide) (by decide)).trans hMR₉.2.1.1
  refine J.il1 dX8_join_4 ?_
  refine cl_X8_171 rfl (k' := 0) (n' := 0) (c_m_isShelfF _ hx₉) ⟨⟨by decide, by decide⟩, ⟨rfl, rfl⟩, by decide, by decide⟩ rfl dX8_join_5 (fun μ9 h9₉ => ?_)
  rw [h9₉]; clear h9₉
  refine J.if_eqN (tgt := 25) dX8_join_8 (by decide) (by omega) (fun c8₉ => ?_) (fun c8₉ => absurd c8₉ (by first | omega | (simp only [not_true_eq_false, not_false_eq_true]; done) | (simp; done)))
  refine J.al0 dX8_join_25 ?_
  refine J.al0 dX8_join_26 ?_
  refine J.iconst dX8_join_27 kI_1 ?_
  refine cl_X8_97 rfl (by decide) (k' := 0) (n' := 0) (c_m_fails _) ⟨⟨by decide, by decide⟩, ⟨rfl, rfl⟩, by decide, by decide⟩ rfl dX8_join_28 (fun μf hf₉ => ?_)
  refine cl_X8_100 rfl (by decide) (k' := 0) (n' := 0) (c_m_endsX _ (j := 1) (by rw [hf₉]; exact wr_s) (by decide) (by decide)) ⟨⟨by decide, by decide⟩, ⟨rfl, rfl⟩, by decide, by decide⟩ rfl dX8_join_31 (fun μe ⟨he1₉, he2₉⟩ => ?_)
  refine J.iret rfl (by decide) (by decide) dX8_join_34 ⟨_, rfl, ?_, ?_⟩
  · rfl
  · have hbk₉ := hMR₉.back (hK₉.step (by rw [hf₉]; exact KS.rf.wrx (by omega))) he1₉ he2₉
    exact ⟨hbk₉.1, by rw [he2₉ 237 (by decide), hf₉]; exact wr_s, hbk₉.2⟩

set_option maxRecDepth 100000 in
set_option maxHeartbeats 4000000 in
theorem c_m_joinX1 {g : GP} {adr : Nat → Nat} (μ : Mem) {α : A7} (hMR₉ : MR μ α) {i : Nat} (hi1₉ : i < 5) {j : Int32} (hx₉ : ¬ (0 ≤ j ∧ j < nI 5)) {k : Int32} : CT g yX8_join mX8_join (RM 60 0 0) (WM g adr μ) [.ref (adr 237), .int (nI i), .int j, .int k] (PM g adr ((.inl (some (.int (nI 0))))) (fun μ' => MR μ' (α) ∧ μ' 237 6 = nI 1 ∧ FrM μ' μ)) := by
  refine CT.of (l0 := [some (.ref (adr 237)), some (.int (nI i)), some (.int j), some (.int k), none]) (by decide +kernel) rfl (Nat.le_of_ble_eq_true rfl) rfl ?_
  refine J.al0 dX8_join_0 ?_
  refine cl_X8_90 rfl (by decide) (k' := 0) (n' := 0) (c_m_keep _) ⟨⟨by decide, by decide⟩, ⟨rfl, rfl⟩, by decide, by decide⟩ rfl dX8_join_1 (fun μ2 ⟨hK₉, hT0₉, hs0₉, hk4₉⟩ => ?_)
  have hS2₉ : MS μ2 238 0 (qS α) := MS.off hMR₉.1 hs0₉
  have hn2₉ : μ2 237 5 = nI (qN α) := (hk4₉ 237 5 (by decide) (by decide)).trans hMR₉.2.1.1
  refine J.il1 dX8_join_4 ?_
  refine cl_X8_171 rfl (k' := 0) (n' := 0) (c_m_isShelfT _ (by omega)) ⟨⟨by decide, by decide⟩, ⟨rfl, rfl⟩, by decide, by decide⟩ rfl dX8_join_5 (fun μ9 h9₉ => ?_)
  rw [h9₉]; clear h9₉
  refine J.if_eqN (tgt := 25) dX8_join_8 (by decide) (by omega) (fun c8₉ => absurd c8₉ (by first | omega | (simp only [not_true_eq_false, not_false_eq_true]; done) | (simp; done))) (fun c8₉ => ?_)
  refine J.il2 dX8_join_11 ?_
  refine cl_X8_171 rfl (k' := 0) (n' := 0) (c_m_isShelfF _ hx₉) ⟨⟨by decide, by decide⟩, ⟨rfl, rfl⟩, by decide, by decide⟩ rfl dX8_join_12 (fun μ9 h9₉ => ?_)
  rw [h9₉]; clear h9₉
  refine J.if_eqN (tgt := 25) dX8_join_15 (by decide) (by omega) (fun c15₉ => ?_) (fun c15₉ => absurd c15₉ (by first | omega | (simp only [not_true_eq_false, not_false_eq_true]; done) | (simp; done)))
  refine J.al0 dX8_join_25 ?_
  refine J.al0 dX8_join_26 ?_
  refine J.iconst dX8_join_27 kI_1 ?_
  refine cl_X8_97 rfl (by decide) (k' := 0) (n' := 0) (c_m_fails _) ⟨⟨by decide, by decide⟩, ⟨rfl, rfl⟩, by decide, by decide⟩ rfl dX8_join_28 (fun μf hf₉ => ?_)
  refine cl_X8_100 rfl (by decide) (k' := 0) (n' := 0) (c_m_endsX _ (j := 1) (by rw [hf₉]; exact wr_s) (by decide) (by decide)) ⟨⟨by decide, by decide⟩, ⟨rfl, rfl⟩, by decide, by decide⟩ rfl dX8_join_31 (fun μe ⟨he1₉, he2₉⟩ => ?_)
  refine J.iret rfl (by decide) (by decide) dX8_join_34 ⟨_, rfl, ?_, ?_⟩
  · rfl
  · have hbk₉ := hMR₉.back (hK₉.step (by rw [hf₉]; exact KS.rf.wrx (by omega))) he1₉ he2₉
    exact ⟨hbk₉.1, by rw [he2₉ 237 (by decide), hf₉]; exact wr_s, hbk₉.2⟩

set_option maxRecDepth 100000 in
set_option maxHeartbeats 4000000 in
theorem c_m_joinX2 {g : GP} {adr : Nat → Nat} (μ : Mem) {α : A7} (hMR₉ : MR μ α) {i : Nat} (hi1₉ : i < 5) {j : Nat} (hj1₉ : j < 5) {k : Int32} (hx₉ : ¬ (0 ≤ k ∧ k < nI 5)) : CT g yX8_join mX8_join (RM 60 0 0) (WM g adr μ) [.ref (adr 237), .int (nI i), .int (nI j), .int k] (PM g adr ((.inl (some (.int (nI 0))))) (fun μ' => MR μ' (α) ∧ μ' 237 6 = nI 1 ∧ FrM μ' μ)) := by
  refine CT.of (l0 := [some (.ref (adr 237)), some (.int (nI i)), some (.int (nI j)), some (.int k), none]) (by decide +kernel) rfl (Nat.le_of_ble_eq_true rfl) rfl ?_
  refine J.al0 dX8_join_0 ?_
  refine cl_X8_90 rfl (by decide) (k' := 0) (n' := 0) (c_m_keep _) ⟨⟨by decide, by decide⟩, ⟨rfl, rfl⟩, by decide, by decide⟩ rfl dX8_join_1 (fun μ2 ⟨hK₉, hT0₉, hs0₉, hk4₉⟩ => ?_)
  have hS2₉ : MS μ2 238 0 (qS α) := MS.off hMR₉.1 hs0₉
  have hn2₉ : μ2 237 5 = nI (qN α) := (hk4₉ 237 5 (by decide) (by decide)).trans hMR₉.2.1.1
  refine J.il1 dX8_join_4 ?_
  refine cl_X8_171 rfl (k' := 0) (n' := 0) (c_m_isShelfT _ (by omega)) ⟨⟨by decide, by decide⟩, ⟨rfl, rfl⟩, by decide, by decide⟩ rfl dX8_join_5 (fun μ9 h9₉ => ?_)
  rw [h9₉]; clear h9₉
  refine J.if_eqN (tgt := 25) dX8_join_8 (by decide) (by omega) (fun c8₉ => absurd c8₉ (by first | omega | (simp only [not_true_eq_false, not_false_eq_true]; done) | (simp; done))) (fun c8₉ => ?_)
  refine J.il2 dX8_join_11 ?_
  refine cl_X8_171 rfl (k' := 0) (n' := 0) (c_m_isShelfT _ (by omega)) ⟨⟨by decide, by decide⟩, ⟨rfl, rfl⟩, by decide, by decide⟩ rfl dX8_join_12 (fun μ9 h9₉ => ?_)
  rw [h9₉]; clear h9₉
  refine J.if_eqN (tgt := 25) dX8_join_15 (by decide) (by omega) (fun c15₉ => absurd c15₉ (by first | omega | (simp only [not_true_eq_false, not_false_eq_true]; done) | (simp; done))) (fun c15₉ => ?_)
  refine J.il3 dX8_join_18 ?_
  refine cl_X8_171 rfl (k' := 0) (n' := 0) (c_m_isShelfF _ hx₉) ⟨⟨by decide, by decide⟩, ⟨rfl, rfl⟩, by decide, by decide⟩ rfl dX8_join_19 (fun μ9 h9₉ => ?_)
  rw [h9₉]; clear h9₉
  refine J.if_neN (tgt := 35) dX8_join_22 (by decide) (by omega) (fun c22₉ => absurd c22₉ (by first | omega | (simp only [not_true_eq_false, not_false_eq_true]; done) | (simp; done))) (fun c22₉ => ?_)
  refine J.al0 dX8_join_25 ?_
  refine J.al0 dX8_join_26 ?_
  refine J.iconst dX8_join_27 kI_1 ?_
  refine cl_X8_97 rfl (by decide) (k' := 0) (n' := 0) (c_m_fails _) ⟨⟨by decide, by decide⟩, ⟨rfl, rfl⟩, by decide, by decide⟩ rfl dX8_join_28 (fun μf hf₉ => ?_)
  refine cl_X8_100 rfl (by decide) (k' := 0) (n' := 0) (c_m_endsX _ (j := 1) (by rw [hf₉]; exact wr_s) (by decide) (by decide)) ⟨⟨by decide, by decide⟩, ⟨rfl, rfl⟩, by decide, by decide⟩ rfl dX8_join_31 (fun μe ⟨he1₉, he2₉⟩ => ?_)
  refine J.iret rfl (by decide) (by decide) dX8_join_34 ⟨_, rfl, ?_, ?_⟩
  · rfl
  · have hbk₉ := hMR₉.back (hK₉.step (by rw [hf₉]; exact KS.rf.wrx (by omega))) he1₉ he2₉
    exact ⟨hbk₉.1, by rw [he2₉ 237 (by decide), hf₉]; exact wr_s, hbk₉.2⟩
