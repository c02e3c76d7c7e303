/-! ===== printed: the rows of permutations ===== -/
set_option maxRecDepth 100000 in
set_option maxHeartbeats 4000000 in
theorem c_lcm {g : GP} {adr : Nat → Nat} (μ : Mem) {a b : Nat} (ha₉ : 0 < a) (ha2₉ : a < 2147483648) (hb₉ : 0 < b) (hb2₉ : b ≤ 32) : CT g yX3_leastCommonMultiple mX3_leastCommonMultiple (RM 0 0 0) (WM g adr μ) [.int (nI a), .int (nI b)] (PM g adr ((.inl (some (.int (nI (Nat.lcm a b)))))) (fun μ' => μ' = μ)) := by
  refine CT.of (l0 := [some (.int (nI a)), some (.int (nI b)), none, none, none, none]) (by decide +kernel) rfl (Nat.le_of_ble_eq_true rfl) rfl ?_
  refine J.il0 dX3_leastCommonMultiple_0 ?_
  refine J.is2 dX3_leastCommonMultiple_1 (by decide) rfl ?_
  refine J.il1 dX3_leastCommonMultiple_2 ?_
  refine J.is3 dX3_leastCommonMultiple_3 (by decide) rfl ?_
  refine J.iconst dX3_leastCommonMultiple_4 kI_0 ?_
  refine J.is4 dX3_leastCommonMultiple_5 (by decide) rfl ?_
  have lp7_1 : ∀ (fu : Nat) (m x y : Nat), 32 < m + fu → m ≤ 32 → 0 < x → x < 2147483648 → y ≤ 32 - m → Nat.gcd x y = Nat.gcd a b → J g mX3_leastCommonMultiple (RM 0 0 0) (MQx g (RM 0 0 0) (PM g adr ((.inl (some (.int (nI (Nat.lcm a b)))))) (fun μ' => μ' = μ))) 0 0 (WM g adr μ) 7 [some (.int (nI a)), some (.int (nI b)), some (.int (nI x)), some (.int (nI y)), some (.int (nI m)), none] [] := by
    intro fu
    induction fu with
    | zero => intro m x y h9₉ h1₉ hx₉ hx2₉ hy₉ hg₉; exact absurd h9₉ (by omega)
    | succ fu ih7 =>
      intro m x y h9₉ h1₉ hx₉ hx2₉ hy₉ hg₉
      refine J.il4 dX3_leastCommonMultiple_7 ?_
      refine J.bipush dX3_leastCommonMultiple_9 kb_32 ?_
      refine J.icmp_geN (tgt := 34) dX3_leastCommonMultiple_11 (by decide) (by omega) (by omega) (fun c11₉ => ?_) (fun c11₉ => ?_)
      · refine J.il2 dX3_leastCommonMultiple_34 ?_
        refine J.if_neN (tgt := 42) dX3_leastCommonMultiple_35 (by decide) (by omega) (fun c35₉ => ?_) (fun c35₉ => absurd c35₉ (by first | omega | (simp only [not_true_eq_false, not_false_eq_true]; done) | (simp; done)))
        refine J.il0 dX3_leastCommonMultiple_42 ?_
        refine J.il2 dX3_leastCommonMultiple_43 ?_
        refine J.idiv dX3_leastCommonMultiple_44 (by omega) (by omega) (by omega) ?_
        refine J.il1 dX3_leastCommonMultiple_45 ?_
        refine J.imulN dX3_leastCommonMultiple_46 ?_
        refine J.iret rfl (by decide) (by decide) dX3_leastCommonMultiple_47 ⟨_, rfl, ?_, ?_⟩
        · rw [lcm_by (by rw [← hg₉, show y = 0 by omega, Nat.gcd_zero_right]) hx₉]
        · rfl
      · refine J.il3 dX3_leastCommonMultiple_14 ?_
        refine J.if_eqN (tgt := 34) dX3_leastCommonMultiple_15 (by decide) (by omega) (fun c15₉ => ?_) (fun c15₉ => ?_)
        · refine J.il2 dX3_leastCommonMultiple_34 ?_
          refine J.if_neN (tgt := 42) dX3_leastCommonMultiple_35 (by decide) (by omega) (fun c35₉ => ?_) (fun c35₉ => absurd c35₉ (by first | omega | (simp only [not_true_eq_false, not_false_eq_true]; done) | (simp; done)))
          refine J.il0 dX3_leastCommonMultiple_42 ?_
          refine J.il2 dX3_leastCommonMultiple_43 ?_
          refine J.idiv dX3_leastCommonMultiple_44 (by omega) (by omega) (by omega) ?_
          refine J.il1 dX3_leastCommonMultiple_45 ?_
          refine J.imulN dX3_leastCommonMultiple_46 ?_
          refine J.iret rfl (by decide) (by decide) dX3_leastCommonMultiple_47 ⟨_, rfl, ?_, ?_⟩
          · rw [lcm_by (by rw [← hg₉, show y = 0 by omega, Nat.gcd_zero_right]) hx₉]
          · rfl
        · refine J.il2 dX3_leastCommonMultiple_18 ?_
          refine J.il3 dX3_leastCommonMultiple_19 ?_
          refine J.irem dX3_leastCommonMultiple_20 (by omega) (by omega) (by omega) ?_
          refine J.is5 dX3_leastCommonMultiple_21 (by decide) rfl ?_
          refine J.il3 dX3_leastCommonMultiple_23 ?_
          refine J.is2 dX3_leastCommonMultiple_24 (by decide) rfl ?_
          refine J.il5 dX3_leastCommonMultiple_25 ?_
          refine J.is3 dX3_leastCommonMultiple_27 (by decide) rfl ?_
          refine J.ii4 (z := 1) dX3_leastCommonMultiple_28 (by decide) (by decide) rfl ?_
          refine J.goto (tgt := 7) dX3_leastCommonMultiple_31 (by decide) ?_
          have hmod := Nat.mod_lt x (show 0 < y by omega)
          exact J.subR (ih7 (m + 1) y (x % y) (by omega) (by omega) (by omega) (by omega) (by omega) (by rw [← hg₉, Nat.gcd_comm x y, Nat.gcd_rec y x, Nat.gcd_comm])) ⟨rfl, ⟨rfl, ⟨rfl, ⟨rfl, ⟨rfl, trivial⟩⟩⟩⟩⟩
  exact lp7_1 (33) 0 a b (by omega) (by omega) ha₉ ha2₉ (by omega) rfl

set_option maxRecDepth 100000 in
set_option maxHeartbeats 4000000 in
theorem c_orderByCycles {g : GP} {adr : Nat → Nat} (μ : Mem) {p : Nat} {f : Nat → Nat} (hp₉ : kt p = 1) (hf₉ : PermR μ (p + 1) f) (hB₉ : Bij f) : CT g yX3_orderByCycles mX3_orderByCycles (RM 3 0 0) (WM g adr μ) [.ref (adr p)] (PM g adr ((.inl (some (.int (nI (ordL f 32)))))) (fun μ' => μ' = μ)) := by
  refine CT.of (l0 := [some (.ref (adr p)), none, none]) (by decide +kernel) rfl (Nat.le_of_ble_eq_true rfl) rfl ?_
  have hp1₉ := kt_p hp₉
  refine J.iconst dX3_orderByCycles_0 kI_1 ?_
  refine J.is1 dX3_orderByCycles_1 (by decide) rfl ?_
  refine J.iconst dX3_orderByCycles_2 kI_0 ?_
  refine J.is2 dX3_orderByCycles_3 (by decide) rfl ?_
  have lp4_1 : ∀ (fu : Nat) (i c : Nat), 32 < i + fu → i ≤ 32 → c = ordL f i → J g mX3_orderByCycles (RM 3 0 0) (MQx g (RM 3 0 0) (PM g adr ((.inl (some (.int (nI (ordL f 32)))))) (fun μ' => μ' = μ))) 0 0 (WM g adr μ) 4 [some (.ref (adr p)), some (.int (nI c)), some (.int (nI i))] [] := by
    intro fu
    induction fu with
    | zero => intro i c h9₉ hi₉ hc₉; exact absurd h9₉ (by omega)
    | succ fu ih4 =>
      intro i c h9₉ hi₉ hc₉
      have hc2₉ : c ≤ 1000000 := by rw [hc₉]; exact ordL_le hB₉ hi₉
      have hc3₉ : 0 < c := by rw [hc₉]; exact ordL_pos f i
      refine J.il2 dX3_orderByCycles_4 ?_
      refine J.bipush dX3_orderByCycles_5 kb_32 ?_
      refine J.icmp_geN (tgt := 26) dX3_orderByCycles_7 (by decide) (by omega) (by omega) (fun c7₉ => ?_) (fun c7₉ => ?_)
      · refine J.il1 dX3_orderByCycles_26 ?_
        refine J.iret rfl (by decide) (by decide) dX3_orderByCycles_27 ⟨_, rfl, ?_, ?_⟩
        · rw [show i = 32 by omega] at hc₉; rw [hc₉]
        · rfl
      · refine J.il1 dX3_orderByCycles_10 ?_
        refine J.al0 dX3_orderByCycles_11 ?_
        refine J.il2 dX3_orderByCycles_12 ?_
        have hcy13₉ := cyL_le f i
        refine cl_X3_47 rfl hp₉ (k' := 0) (n' := 0) (c_cycleLength _ hp₉ hf₉ (by omega)) ⟨⟨by decide, by decide⟩, ⟨rfl, rfl⟩, by decide, by decide⟩ rfl dX3_orderByCycles_13 (fun μ9 h9₉ => ?_)
        rw [h9₉]; clear h9₉
        refine cl_X3_56 rfl (k' := 0) (n' := 0) (c_lcm _ (by omega) (by omega) (by omega) (by omega)) ⟨⟨by decide, by decide⟩, ⟨rfl, rfl⟩, by decide, by decide⟩ rfl dX3_orderByCycles_16 (fun μ9 h9₉ => ?_)
        rw [h9₉]; clear h9₉
        refine J.is1 dX3_orderByCycles_19 (by decide) rfl ?_
        refine J.ii2 (z := 1) dX3_orderByCycles_20 (by decide) (by decide) rfl ?_
        refine J.goto (tgt := 4) dX3_orderByCycles_23 (by decide) ?_
        exact ih4 (i + 1) (Nat.lcm c (cyL f i)) (by omega) (by omega) (by rw [hc₉]; rfl)
  exact lp4_1 (33) 0 1 (by omega) (by omega) rfl

set_option maxRecDepth 100000 in
set_option maxHeartbeats 4000000 in
theorem c_orderByDoing {g : GP} {adr : Nat → Nat} (μ : Mem) {p q : Nat} {f : Nat → Nat} (hp₉ : kt p = 1) (hq₉ : kt q = 1) (hn₉ : p ≠ q) (hf₉ : PermR μ (p + 1) f) (hB₉ : Bij f) : CT g yX3_orderByDoing mX3_orderByDoing (RM 1 0 0) (WM g adr μ) [.ref (adr p), .ref (adr q)] (PM g adr ((.inl (some (.int (nI (ordL f 32)))))) (fun μ' => Off μ' μ (q + 1))) := by
  refine CT.of (l0 := [some (.ref (adr p)), some (.ref (adr q)), none]) (by decide +kernel) rfl (Nat.le_of_ble_eq_true rfl) rfl ?_
  have hp1₉ := kt_p hp₉
  have hq1₉ := kt_p hq₉
  refine J.al1 dX3_orderByDoing_0 ?_
  refine J.al0 dX3_orderByDoing_1 ?_
  refine cl_X3_33 rfl hq₉ (k' := 0) (n' := 0) (c_toCopy _ hq₉ hp₉ (Ne.symm hn₉) hf₉) ⟨⟨by decide, by decide⟩, ⟨rfl, rfl⟩, by decide, by decide⟩ rfl dX3_orderByDoing_2 (fun μ2 ⟨h2₉, hO2₉⟩ => ?_)
  refine J.iconst dX3_orderByDoing_5 kI_1 ?_
  refine J.is2 dX3_orderByDoing_6 (by decide) rfl ?_
  have lp7_1 : ∀ (fu : Nat) (m : Nat) (μ1 : Mem), 1000000 < m + fu → 1 ≤ m → m ≤ 1000000 → PermR μ1 (q + 1) (iter f m) → Off μ1 μ (q + 1) → (∀ z, 1 ≤ z → z < m → ¬ ∀ k, k < 32 → iter f z k = k) → J g mX3_orderByDoing (RM 1 0 0) (MQx g (RM 1 0 0) (PM g adr ((.inl (some (.int (nI (ordL f 32)))))) (fun μ' => Off μ' μ (q + 1)))) 0 0 (WM g adr μ1) 7 [some (.ref (adr p)), some (.ref (adr q)), some (.int (nI m))] [] := by
    intro fu
    induction fu with
    | zero => intro m μ1 h9₉ h1₉ h2₉ hI₉ hO₉ hL₉; exact absurd h9₉ (by omega)
    | succ fu ih7 =>
      intro m μ1 h9₉ h1₉ h2₉ hI₉ hO₉ hL₉
      refine J.il2 dX3_orderByDoing_7 ?_
      refine J.ldcI dX3_orderByDoing_8 t_1143 (show (_ : Int32) = nI 1000000 by decide) ?_
      refine J.icmp_geN (tgt := 31) dX3_orderByDoing_10 (by decide) (by omega) (by omega) (fun c10₉ => ?_) (fun c10₉ => ?_)
      · refine J.il2 dX3_orderByDoing_31 ?_
        refine J.iret rfl (by decide) (by decide) dX3_orderByDoing_32 ⟨_, rfl, ?_, ?_⟩
        · rw [ord_by hB₉ h1₉ h2₉ hL₉ (by first | exact Or.inl (fun k hk₉ => of_decide_eq_true (allU_iff.mp c17₉ k hk₉)) | exact Or.inr (by omega))]
        · exact hO₉
      · refine J.al1 dX3_orderByDoing_13 ?_
        refine cl_X3_60 rfl hq₉ (k' := 0) (n' := 0) (c_movesNothing _ hq₉ hI₉) ⟨⟨by decide, by decide⟩, ⟨rfl, rfl⟩, by decide, by decide⟩ rfl dX3_orderByDoing_14 (fun μ9 h9₉ => ?_)
        rw [h9₉]; clear h9₉
        refine J.if_neB (tgt := 31) dX3_orderByDoing_17 (by decide) (fun c17₉ => ?_) (fun c17₉ => ?_)
        · refine J.il2 dX3_orderByDoing_31 ?_
          refine J.iret rfl (by decide) (by decide) dX3_orderByDoing_32 ⟨_, rfl, ?_, ?_⟩
          · rw [ord_by hB₉ h1₉ h2₉ hL₉ (by first | exact Or.inl (fun k hk₉ => of_decide_eq_true (allU_iff.mp c17₉ k hk₉)) | exact Or.inr (by omega))]
          · exact hO₉
        · refine J.al1 dX3_orderByDoing_20 ?_
          refine J.al0 dX3_orderByDoing_21 ?_
          refine cl_X3_29 rfl hq₉ (k' := 0) (n' := 0) (c_then _ hq₉ hp₉ (Ne.symm hn₉) hI₉ (hf₉.off hO₉ (by omega))) ⟨⟨by decide, by decide⟩, ⟨rfl, rfl⟩, by decide, by decide⟩ rfl dX3_orderByDoing_22 (fun μ3 ⟨h3₉, hO3₉⟩ => ?_)
          refine J.ii2 (z := 1) dX3_orderByDoing_25 (by decide) (by decide) rfl ?_
          refine J.goto (tgt := 7) dX3_orderByDoing_28 (by decide) ?_
          exact ih7 (m + 1) _ (by omega) (by omega) (by omega) h3₉ (hO3₉.trans hO₉) (fun z q1₉ q2₉ => if e : z = m then (by rw [e]; exact fun q => c17₉ (allU_iff.mpr (fun k hk₉ => decide_eq_true (q k hk₉)))) else hL₉ z q1₉ (by omega))
  exact lp7_1 (1000001) 1 _ (by omega) (by omega) (by omega) h2₉ hO2₉ (fun z q1₉ q2₉ => absurd q2₉ (by omega))

set_option maxRecDepth 100000 in
set_option maxHeartbeats 4000000 in
theorem c_isEvenByCycles {g : GP} {adr : Nat → Nat} (μ : Mem) {p : Nat} {f : Nat → Nat} (hp₉ : kt p = 1) (hf₉ : PermR μ (p + 1) f) : CT g yX3_isEvenByCycles mX3_isEvenByCycles (RM 4 0 0) (WM g adr μ) [.ref (adr p)] (PM g adr ((.inl (some (.int (if evC f = true then nI 1 else nI 0))))) (fun μ' => μ' = μ)) := by
  refine CT.of (l0 := [some (.ref (adr p))]) (by decide +kernel) rfl (Nat.le_of_ble_eq_true rfl) rfl ?_
  have hp1₉ := kt_p hp₉
  have hcl₉ := cnt_le (fun s => lowB f s && decide (1 ≤ cyL f s)) 32
  refine J.bipush dX3_isEvenByCycles_0 kb_32 ?_
  refine J.al0 dX3_isEvenByCycles_2 ?_
  refine J.iconst dX3_isEvenByCycles_3 kI_1 ?_
  refine cl_X3_64 rfl hp₉ (k' := 0) (n' := 0) (c_countCycles _ hp₉ hf₉ (by omega)) ⟨⟨by decide, by decide⟩, ⟨rfl, rfl⟩, by decide, by decide⟩ rfl dX3_isEvenByCycles_4 (fun μ9 h9₉ => ?_)
  rw [h9₉]; clear h9₉
  refine J.isubN dX3_isEvenByCycles_7 (by omega) ?_
  refine J.iconst dX3_isEvenByCycles_8 kI_2 ?_
  refine J.irem dX3_isEvenByCycles_9 (by omega) (by omega) (by omega) ?_
  refine J.if_neN (tgt := 17) dX3_isEvenByCycles_10 (by decide) (by omega) (fun c10₉ => ?_) (fun c10₉ => ?_)
  · refine J.iconst dX3_isEvenByCycles_17 kI_0 ?_
    refine J.zret (ty := .boolean) rfl (by decide) (by decide) (by decide) dX3_isEvenByCycles_18 ⟨_, rfl, ?_, ?_⟩
    · first | rw [if_pos (evC_by.mpr (by omega))] | rw [if_neg (fun q => absurd (evC_by.mp q) (by omega))]
    · rfl
  · refine J.iconst dX3_isEvenByCycles_13 kI_1 ?_
    refine J.goto (tgt := 18) dX3_isEvenByCycles_14 (by decide) ?_
    refine J.zret (ty := .boolean) rfl (by decide) (by decide) (by decide) dX3_isEvenByCycles_18 ⟨_, rfl, ?_, ?_⟩
    · first | rw [if_pos (evC_by.mpr (by omega))] | rw [if_neg (fun q => absurd (evC_by.mp q) (by omega))]
    · rfl

set_option maxRecDepth 100000 in
set_option maxHeartbeats 4000000 in
theorem c_isEvenByPairs {g : GP} {adr : Nat → Nat} (μ : Mem) {p : Nat} {f : Nat → Nat} (hp₉ : kt p = 1) (hf₉ : PermR μ (p + 1) f) : CT g yX3_isEvenByPairs mX3_isEvenByPairs (RM 0 0 0) (WM g adr μ) [.ref (adr p)] (PM g adr ((.inl (some (.int (if (invN f 32) % 2 = 0 then nI 1 else nI 0))))) (fun μ' => μ' = μ)) := by
  refine CT.of (l0 := [some (.ref (adr p)), none, none, none]) (by decide +kernel) rfl (Nat.le_of_ble_eq_true rfl) rfl ?_
  have hp1₉ := kt_p hp₉
  refine J.iconst dX3_isEvenByPairs_0 kI_1 ?_
  refine J.is1 dX3_isEvenByPairs_1 (by decide) rfl ?_
  refine J.iconst dX3_isEvenByPairs_2 kI_0 ?_
  refine J.is2 dX3_isEvenByPairs_3 (by decide) rfl ?_
  have lp4_1 : ∀ (fu : Nat) (i c : Nat), 32 < i + fu → i ≤ 32 → c = invN f i → J g mX3_isEvenByPairs (RM 0 0 0) (MQx g (RM 0 0 0) (PM g adr ((.inl (some (.int (if (invN f 32) % 2 = 0 then nI 1 else nI 0))))) (fun μ' => μ' = μ))) 0 0 (WM g adr μ) 4 [some (.ref (adr p)), some (.int (if c % 2 = 0 then nI 1 else nI 0)), some (.int (nI i)), none] [] := by
    intro fu
    induction fu with
    | zero => intro i c h9₉ hi₉ hc₉; exact absurd h9₉ (by omega)
    | succ fu ih4 =>
      intro i c h9₉ hi₉ hc₉
      refine J.il2 dX3_isEvenByPairs_4 ?_
      refine J.bipush dX3_isEvenByPairs_5 kb_32 ?_
      refine J.icmp_geN (tgt := 57) dX3_isEvenByPairs_7 (by decide) (by omega) (by omega) (fun c7₉ => ?_) (fun c7₉ => ?_)
      · refine J.il1 dX3_isEvenByPairs_57 ?_
        refine J.zret (ty := .boolean) rfl (by split <;> rfl) (by decide) (by decide) dX3_isEvenByPairs_58 ⟨_, rfl, ?_, ?_⟩
        · rw [show i = 32 by omega] at hc₉; rw [hc₉]
        · rfl
      · refine J.il2 dX3_isEvenByPairs_10 ?_
        refine J.iconst dX3_isEvenByPairs_11 kI_1 ?_
        refine J.iaddN dX3_isEvenByPairs_12 ?_
        refine J.is3 dX3_isEvenByPairs_13 (by decide) rfl ?_
        have lp14_2 : ∀ (fu : Nat) (j d : Nat), 32 < j + fu → j ≤ 32 → i < j → d = c + cnt (fun h => decide (i < h) && decide (f h < f i)) j → J g mX3_isEvenByPairs (RM 0 0 0) (MQx g (RM 0 0 0) (PM g adr ((.inl (some (.int (if (invN f 32) % 2 = 0 then nI 1 else nI 0))))) (fun μ' => μ' = μ))) 0 0 (WM g adr μ) 14 [some (.ref (adr p)), some (.int (if d % 2 = 0 then nI 1 else nI 0)), some (.int (nI i)), some (.int (nI j))] [] := by
          intro fu
          induction fu with
          | zero => intro j d h9₉ hj₉ hij₉ hd₉; exact absurd h9₉ (by omega)
          | succ fu ih14 =>
            intro j d h9₉ hj₉ hij₉ hd₉
            refine J.il3 dX3_isEvenByPairs_14 ?_
            refine J.bipush dX3_isEvenByPairs_15 kb_32 ?_
            refine J.icmp_geN (tgt := 51) dX3_isEvenByPairs_17 (by decide) (by omega) (by omega) (fun c17₉ => ?_) (fun c17₉ => ?_)
            · refine J.ii2 (z := 1) dX3_isEvenByPairs_51 (by decide) (by decide) rfl ?_
              refine J.goto (tgt := 4) dX3_isEvenByPairs_54 (by decide) ?_
              exact J.subR (ih4 (i + 1) d (by omega) (by omega) (by rw [hd₉, show j = 32 by omega, hc₉]; rfl)) ⟨rfl, ⟨rfl, ⟨rfl, trivial⟩⟩⟩
            · refine J.al0 dX3_isEvenByPairs_20 ?_
              refine gf_X3_9 rfl (o2 := p + 1) hp₉ rfl dX3_isEvenByPairs_21 ?_
              refine J.il2 dX3_isEvenByPairs_24 ?_
              have hb3₉ := (hf₉ i (by omega)).2
              refine J.iald (N := 32) (x := nI (f i)) hp1₉ (by decide) (by decide) (by omega) ((hf₉ i (by omega)).1) dX3_isEvenByPairs_25 ?_
              refine J.al0 dX3_isEvenByPairs_26 ?_
              refine gf_X3_9 rfl (o2 := p + 1) hp₉ rfl dX3_isEvenByPairs_27 ?_
              refine J.il3 dX3_isEvenByPairs_30 ?_
              have hb4₉ := (hf₉ j (by omega)).2
              refine J.iald (N := 32) (x := nI (f j)) hp1₉ (by decide) (by decide) (by omega) ((hf₉ j (by omega)).1) dX3_isEvenByPairs_31 ?_
              refine J.icmp_leN (tgt := 45) dX3_isEvenByPairs_32 (by decide) (by omega) (by omega) (fun c32₉ => ?_) (fun c32₉ => ?_)
              · refine J.ii3 (z := 1) dX3_isEvenByPairs_45 (by decide) (by decide) rfl ?_
                refine J.goto (tgt := 14) dX3_isEvenByPairs_48 (by decide) ?_
                exact ih14 (j + 1) d (by omega) (by omega) (by omega) (by rw [cnt_1, hd₉]; first | (rw [if_pos (by rw [decide_eq_true hij₉, decide_eq_true c32₉]; rfl)] <;> omega) | (rw [if_neg (by rw [decide_eq_false (show ¬ f j < f i by omega)]; simp)] <;> omega))
              · refine J.il1 dX3_isEvenByPairs_35 ?_
                refine J.if_neB (tgt := 43) dX3_isEvenByPairs_36 (by decide) (fun c36₉ => ?_) (fun c36₉ => ?_)
                · refine J.iconst dX3_isEvenByPairs_43 kI_0 ?_
                  refine J.is1 dX3_isEvenByPairs_44 (by decide) rfl ?_
                  refine J.ii3 (z := 1) dX3_isEvenByPairs_45 (by decide) (by decide) rfl ?_
                  refine J.goto (tgt := 14) dX3_isEvenByPairs_48 (by decide) ?_
                  have z9₉ := ih14 (j + 1) (d + 1) (by omega) (by omega) (by omega) (by rw [cnt_1, hd₉]; first | (rw [if_pos (by rw [decide_eq_true hij₉, decide_eq_true c32₉]; rfl)] <;> omega) | (rw [if_neg (by rw [decide_eq_false (show ¬ f j < f i by omega)]; simp)] <;> omega))
                  rw [if_neg (show ¬ (d + 1) % 2 = 0 by omega)] at z9₉
                  exact z9₉
                · refine J.iconst dX3_isEvenByPairs_39 kI_1 ?_
                  refine J.goto (tgt := 44) dX3_isEvenByPairs_40 (by decide) ?_
                  refine J.is1 dX3_isEvenByPairs_44 (by decide) rfl ?_
                  refine J.ii3 (z := 1) dX3_isEvenByPairs_45 (by decide) (by decide) rfl ?_
                  refine J.goto (tgt := 14) dX3_isEvenByPairs_48 (by decide) ?_
                  have z9₉ := ih14 (j + 1) (d + 1) (by omega) (by omega) (by omega) (by rw [cnt_1, hd₉]; first | (rw [if_pos (by rw [decide_eq_true hij₉, decide_eq_true c32₉]; rfl)] <;> omega) | (rw [if_neg (by rw [decide_eq_false (show ¬ f j < f i by omega)]; simp)] <;> omega))
                  rw [if_pos (show (d + 1) % 2 = 0 by omega)] at z9₉
                  exact z9₉
        exact lp14_2 (33) (i + 1) c (by omega) (by omega) (by omega) (by rw [cnt_z (fun h hh₉ => by rw [decide_eq_false (by omega)]; rfl)]; rfl)
  exact lp4_1 (33) 0 0 (by omega) (by omega) rfl
