/-! ===== printed: one call, both sides ===== -/
/-- the two sides of one call -/
def KB (g : GP) (adr : Nat → Nat) (z : Bool) (yl : MethodName) (ml : MI) (al : List Value) (ym : MethodName) (mm : MI) (am : List Value) (μ : Mem) (α : A7) : Prop :=
  ∃ (c : Nat) (v v' : Int32) (α' : A7) (ψ : Mem → Prop), c < 10 ∧ (c = 0 → v' = v) ∧ (z = true → v' = nI 0 ∨ v' = nI 1) ∧ (∀ μ', ψ μ' → CR μ' α' ∧ MR μ' α ∧ (c = 0 → μ' 247 0 = v)) ∧
    CW g yl ml (RM 21 1 6) (WM g adr μ) al (PM g adr (.inl (some (.int (nI c)))) ψ) ∧
    ∀ μ1, MR μ1 α → CT g ym mm (RM 60 0 0) (WM g adr μ1) am (PM g adr (.inl (some (.int v'))) (fun μ' => MR μ' α' ∧ μ' 237 6 = nI c ∧ FrM μ' μ1))
theorem MR.fc {μ' μ : Mem} {α : A7} (h : MR μ α) (f : ∀ o, 237 ≤ o → o ≠ 247 → μ' o = μ o) : MR μ' α := by
  obtain ⟨h1, h2, h3, h4, h5, h6, h7, h8, h9, h10⟩ := h
  have e0 := f 237 (by decide) (by decide)
  exact ⟨h1.off (f 238 (by decide) (by decide)), h2.eq (by rw [e0]) (f 241 (by decide) (by decide)), by rw [e0]; exact h3, fun hb => (h4 hb).off (f 240 (by decide) (by decide)), h5.eq (by rw [e0]) (f 245 (by decide) (by decide)), h6, h7.eq (by rw [e0]) (f 246 (by decide) (by decide)), h8, h9.eq (by rw [e0]), h10.eq (by rw [e0]) (by rw [e0])⟩
theorem CR.fm {μ' μ : Mem} {α : A7} (h : CR μ α) (f : FrM μ' μ) : CR μ' α := h.off (fun o ho => f o (by omega))
theorem CR.w247 {μ : Mem} {α : A7} {k : Nat} {v : Int32} (h : CR μ α) : CR (wr μ 247 k v) α := h.off (fun o ho => wr_o (by omega))
section KK
variable {g : GP} {adr : Nat → Nat} {μ : Mem} {α : A7}
theorem KB.ok {z : Bool} {yl : MethodName} {ml : MI} {al : List Value} {ym : MethodName} {mm : MI} {am : List Value} {α' : A7} {v v' : Int32} (hM : MR μ α) (hz : z = true → v' = nI 0 ∨ v' = nI 1) (hv : v' = v)
    (hw : CW g yl ml (RM 21 1 6) (WM g adr μ) al (PM g adr (.inl (some (.int (nI 0)))) (fun μ' => ∃ μ1, (CR μ1 α' ∧ FrC μ1 μ) ∧ μ' = wr μ1 247 0 v)))
    (hm : ∀ μ1, MR μ1 α → CT g ym mm (RM 60 0 0) (WM g adr μ1) am (PM g adr (.inl (some (.int v'))) (fun μ' => MR μ' α' ∧ μ' 237 6 = nI 0 ∧ FrM μ' μ1))) : KB g adr z yl ml al ym mm am μ α :=
  ⟨0, v, v', α', _, by decide, fun _ => hv, hz, fun μ' h => by
    obtain ⟨μ1, ⟨h1, h2⟩, rfl⟩ := h
    exact ⟨h1.w247, hM.fc (fun o ho hn => (wr_o hn).trans (h2 o ho)), fun _ => wr_s⟩, hw, hm⟩
theorem KB.ex {z : Bool} {yl : MethodName} {ml : MI} {al : List Value} {ym : MethodName} {mm : MI} {am : List Value} {α' : A7} {c : Nat} {v' : Int32} (hM : MR μ α) (hz : z = true → v' = nI 0 ∨ v' = nI 1) (h1 : c ≠ 0) (h2 : c < 10)
    (hw : CW g yl ml (RM 21 1 6) (WM g adr μ) al (PM g adr (.inl (some (.int (nI c)))) (fun μ' => CR μ' α' ∧ FrC μ' μ)))
    (hm : ∀ μ1, MR μ1 α → CT g ym mm (RM 60 0 0) (WM g adr μ1) am (PM g adr (.inl (some (.int v'))) (fun μ' => MR μ' α' ∧ μ' 237 6 = nI c ∧ FrM μ' μ1))) : KB g adr z yl ml al ym mm am μ α :=
  ⟨c, v', v', α', _, h2, fun _ => rfl, hz, fun μ' h => ⟨h.1, hM.fc (fun o ho _ => h.2 o ho), fun q => absurd q h1⟩, hw, hm⟩
theorem ite01 {P : Prop} [Decidable P] : (if P then nI 1 else nI 0) = nI 0 ∨ (if P then nI 1 else nI 0) = nI 1 := by
  by_cases h : P
  · rw [if_pos h]; exact Or.inr rfl
  · rw [if_neg h]; exact Or.inl rfl
theorem noZ {P : Prop} : false = true → P := fun h => nomatch h
theorem use_p {x : Int32} (h0 : 0 ≤ x) (h : x < nI 1 ∨ nI 99 < x) : x = 0 ∨ ¬ (-99 ≤ x ∧ x ≤ nI 99) := by
  have e1 : (nI 1).toInt = 1 := by decide
  have e2 : (nI 99).toInt = 99 := by decide
  have e4 : (0 : Int32).toInt = 0 := by decide
  rw [Int32.lt_iff_toInt_lt, Int32.lt_iff_toInt_lt, e1, e2] at h
  rw [Int32.le_iff_toInt_le, e4] at h0
  by_cases q : x.toInt = 0
  · exact Or.inl (Int32.toInt_inj.mp (q.trans e4.symm))
  · refine Or.inr fun z => ?_
    have z2 := Int32.le_iff_toInt_le.mp z.2
    omega
theorem use_n {x : Int32} (h0 : ¬ 0 ≤ x) (h : -x < nI 1 ∨ nI 99 < -x) : x = 0 ∨ ¬ (-99 ≤ x ∧ x ≤ nI 99) := by
  refine Or.inr fun q => ?_
  have e1 : (nI 1).toInt = 1 := by decide
  have e2 : (nI 99).toInt = 99 := by decide
  have e3 : (-99 : Int32).toInt = -99 := by decide
  have e4 : (0 : Int32).toInt = 0 := by decide
  have e5 := Int32.toInt_neg x
  have q1 := Int32.le_iff_toInt_le.mp q.1
  rw [Int32.le_iff_toInt_le, e4] at h0
  rw [e3] at q1
  rw [Int.bmod_def] at e5
  rw [Int32.lt_iff_toInt_lt, Int32.lt_iff_toInt_lt, e1, e2] at h
  omega
theorem acc_x {x : Int32} (h : x < nI 0 ∨ nI 7 < x) : x.toInt < 0 ∨ 7 < x.toInt := by
  have e1 : (nI 0).toInt = 0 := by decide
  have e2 : (nI 7).toInt = 7 := by decide
  rwa [Int32.lt_iff_toInt_lt, Int32.lt_iff_toInt_lt, e1, e2] at h
set_option maxHeartbeats 1000000 in
theorem k_turn (x1 x2 : Int32) (hC : CR μ α) (hM : MR μ α) : KB g adr false yL_turn mL_turn [.ref (adr 0), .int x1, .int x2, .ref (adr 247)] yX8_turn mX8_turn [.ref (adr 237), .int x1, .int x2] μ α := by
  by_cases hx : 0 ≤ x1 ∧ x1 < nI 4
  case neg => exact KB.ex hM noZ (by decide) (by decide) (wx_turn1 (c_turnX0 μ hC  hx)) (fun μ1 h9 => c_m_turnX0 μ1 h9  hx)
  obtain ⟨n1, rfl, h1⟩ := i_num (by decide) hx
  clear hx
  by_cases hx : x2 < nI 1 ∨ nI 7 < x2
  case pos => exact KB.ex hM noZ (by decide) (by decide) (wx_turn2 (c_turnX1 μ hC h1 hx)) (fun μ1 h9 => c_m_turnX1 μ1 h9 h1 hx)
  obtain ⟨n2, rfl, h2, h2b⟩ := i_rng (by decide) (by decide) hx
  clear hx
  exact KB.ok hM noZ rfl (w_turn (c_turn μ hC h1 h2 h2b)) (fun μ1 h9 => c_m_turn μ1 h9 h1 h2 h2b)

set_option maxHeartbeats 1000000 in
theorem k_shift (x1 x2 : Int32) (hC : CR μ α) (hM : MR μ α) : KB g adr false yL_shift mL_shift [.ref (adr 0), .int x1, .int x2, .ref (adr 247)] yX8_shift mX8_shift [.ref (adr 237), .int x1, .int x2] μ α := by
  by_cases hx : 0 ≤ x1 ∧ x1 < nI 8
  case neg => exact KB.ex hM noZ (by decide) (by decide) (wx_shift1 (c_shiftX0 μ hC  hx)) (fun μ1 h9 => c_m_shiftX0 μ1 h9  hx)
  obtain ⟨n1, rfl, h1⟩ := i_num (by decide) hx
  clear hx
  by_cases hx : x2 < nI 1 ∨ nI 3 < x2
  case pos => exact KB.ex hM noZ (by decide) (by decide) (wx_shift2 (c_shiftX1 μ hC h1 hx)) (fun μ1 h9 => c_m_shiftX1 μ1 h9 h1 hx)
  obtain ⟨n2, rfl, h2, h2b⟩ := i_rng (by decide) (by decide) hx
  clear hx
  exact KB.ok hM noZ rfl (w_shift (c_shift μ hC h1 h2 h2b)) (fun μ1 h9 => c_m_shift μ1 h9 h1 h2 h2b)

set_option maxHeartbeats 1000000 in
theorem k_scramble (x1 x2 : Int32) (hC : CR μ α) (hM : MR μ α) : KB g adr false yL_scramble mL_scramble [.ref (adr 0), .int x1, .int x2, .ref (adr 247)] yX8_scramble mX8_scramble [.ref (adr 237), .int x1, .int x2] μ α := by
  by_cases hx : x1 < nI 0 ∨ nI 9999 < x1
  case pos => exact KB.ex hM noZ (by decide) (by decide) (wx_scramble1 (c_scrambleX0 μ hC  hx)) (fun μ1 h9 => c_m_scrambleX0 μ1 h9  hx)
  obtain ⟨n1, rfl, h1, h1b⟩ := i_rng (by decide) (by decide) hx
  clear hx
  by_cases hx : x2 < nI 1 ∨ nI 60 < x2
  case pos => exact KB.ex hM noZ (by decide) (by decide) (wx_scramble1 (c_scrambleX1 μ hC h1 h1b hx)) (fun μ1 h9 => c_m_scrambleX1 μ1 h9 h1 h1b hx)
  obtain ⟨n2, rfl, h2, h2b⟩ := i_rng (by decide) (by decide) hx
  clear hx
  exact KB.ok hM noZ rfl (w_scramble (c_scramble μ hC h1 h1b h2 h2b)) (fun μ1 h9 => c_m_scramble μ1 h9 h1 h1b h2 h2b)

set_option maxHeartbeats 1000000 in
theorem k_logOf (x1 x2 : Int32) (hC : CR μ α) (hM : MR μ α) : KB g adr false yL_logOf mL_logOf [.ref (adr 0), .int x1, .int x2, .ref (adr 247)] yX8_logOf mX8_logOf [.ref (adr 237), .int x1, .int x2] μ α := by
  by_cases hx : 0 ≤ x1 ∧ x1 < nI (aLn (qS α))
  case neg => exact KB.ex hM noZ (by decide) (by decide) (wx_logOf1 (c_logOfX0 μ hC  hx)) (fun μ1 h9 => c_m_logOfX0 μ1 h9  hx)
  obtain ⟨n1, rfl, h1⟩ := i_num (by have h9 := hC.1.ln; omega) hx
  clear hx
  by_cases hx : x2 < nI 0 ∨ nI 2 < x2
  case pos => exact KB.ex hM noZ (by decide) (by decide) (wx_logOf2 (c_logOfX1 μ hC h1 hx)) (fun μ1 h9 => c_m_logOfX1 μ1 h9 h1 hx)
  obtain ⟨n2, rfl, h2, h2b⟩ := i_rng (by decide) (by decide) hx
  clear hx
  exact KB.ok hM noZ rfl (w_logOf (c_logOf μ hC h1 h2 h2b)) (fun μ1 h9 => c_m_logOf μ1 h9 h1 h2 h2b)

set_option maxHeartbeats 1000000 in
theorem k_at (x1 : Int32) (hC : CR μ α) (hM : MR μ α) : KB g adr false yL_at mL_at [.ref (adr 0), .int x1, .ref (adr 247)] yX8_at mX8_at [.ref (adr 237), .int x1] μ α := by
  by_cases hx : 0 ≤ x1 ∧ x1 < nI 32
  case neg => exact KB.ex hM noZ (by decide) (by decide) (wx_at1 (c_atX0 μ hC  hx)) (fun μ1 h9 => c_m_atX0 μ1 h9  hx)
  obtain ⟨n1, rfl, h1⟩ := i_num (by decide) hx
  clear hx
  exact KB.ok hM noZ rfl (w_at (c_at μ hC h1)) (fun μ1 h9 => c_m_at μ1 h9 h1)

set_option maxHeartbeats 1000000 in
theorem k_where (x1 : Int32) (hC : CR μ α) (hM : MR μ α) : KB g adr false yL_where mL_where [.ref (adr 0), .int x1, .ref (adr 247)] yX8_where mX8_where [.ref (adr 237), .int x1] μ α := by
  by_cases hx : 0 ≤ x1 ∧ x1 < nI 32
  case neg => exact KB.ex hM noZ (by decide) (by decide) (wx_where1 (c_whereX0 μ hC  hx)) (fun μ1 h9 => c_m_whereX0 μ1 h9  hx)
  obtain ⟨n1, rfl, h1⟩ := i_num (by decide) hx
  clear hx
  exact KB.ok hM noZ rfl (w_where (c_where μ hC h1)) (fun μ1 h9 => c_m_where μ1 h9 h1)

set_option maxHeartbeats 1000000 in
theorem k_colour (x1 : Int32) (hC : CR μ α) (hM : MR μ α) : KB g adr false yL_colour mL_colour [.ref (adr 0), .int x1, .ref (adr 247)] yX8_colour mX8_colour [.ref (adr 237), .int x1] μ α := by
  by_cases hx : 0 ≤ x1 ∧ x1 < nI 32
  case neg => exact KB.ex hM noZ (by decide) (by decide) (wx_colour1 (c_colourX0 μ hC  hx)) (fun μ1 h9 => c_m_colourX0 μ1 h9  hx)
  obtain ⟨n1, rfl, h1⟩ := i_num (by decide) hx
  clear hx
  exact KB.ok hM noZ rfl (w_colour (c_colour μ hC h1)) (fun μ1 h9 => c_m_colour μ1 h9 h1)

set_option maxHeartbeats 1000000 in
theorem k_isDone (x1 : Int32) (hC : CR μ α) (hM : MR μ α) : KB g adr true yL_isDone mL_isDone [.ref (adr 0), .int x1, .ref (adr 247)] yX8_isDone mX8_isDone [.ref (adr 237), .int x1] μ α := by
  by_cases hx : 0 ≤ x1 ∧ x1 < nI 4
  case neg => exact KB.ex hM (fun _ => Or.inl rfl) (by decide) (by decide) (wx_isDone1 (c_isDoneX0 μ hC  hx)) (fun μ1 h9 => c_m_isDoneX0 μ1 h9  hx)
  obtain ⟨n1, rfl, h1⟩ := i_num (by decide) hx
  clear hx
  exact KB.ok hM (fun _ => ite01) rfl (w_isDone (c_isDone μ hC h1)) (fun μ1 h9 => c_m_isDone μ1 h9 h1)

set_option maxHeartbeats 1000000 in
theorem k_fewest (x1 x2 : Int32) (hC : CR μ α) (hM : MR μ α) : KB g adr false yL_fewest mL_fewest [.ref (adr 0), .int x1, .int x2, .ref (adr 247)] yX8_fewest mX8_fewest [.ref (adr 237), .int x1, .int x2] μ α := by
  by_cases hx : 0 ≤ x1 ∧ x1 < nI 32
  case neg => exact KB.ex hM noZ (by decide) (by decide) (wx_fewest1 (c_fewestX0 μ hC  hx)) (fun μ1 h9 => c_m_fewestX0 μ1 h9  hx)
  obtain ⟨n1, rfl, h1⟩ := i_num (by decide) hx
  clear hx
  by_cases hx : 0 ≤ x2 ∧ x2 < nI 32
  case neg => exact KB.ex hM noZ (by decide) (by decide) (wx_fewest1 (c_fewestX1 μ hC h1 hx)) (fun μ1 h9 => c_m_fewestX1 μ1 h9 h1 hx)
  obtain ⟨n2, rfl, h2⟩ := i_num (by decide) hx
  clear hx
  exact KB.ok hM noZ rfl (w_fewest (c_fewest μ hC h1 h2)) (fun μ1 h9 => c_m_fewest μ1 h9 h1 h2)

set_option maxHeartbeats 1000000 in
theorem k_join (x1 x2 x3 : Int32) (hC : CR μ α) (hM : MR μ α) : KB g adr false yL_join mL_join [.ref (adr 0), .int x1, .int x2, .int x3, .ref (adr 247)] yX8_join mX8_join [.ref (adr 237), .int x1, .int x2, .int x3] μ α := by
  by_cases hx : 0 ≤ x1 ∧ x1 < nI 5
  case neg => exact KB.ex hM noZ (by decide) (by decide) (wx_join1 (c_joinX0 μ hC  hx)) (fun μ1 h9 => c_m_joinX0 μ1 h9  hx)
  obtain ⟨n1, rfl, h1⟩ := i_num (by decide) hx
  clear hx
  by_cases hx : 0 ≤ x2 ∧ x2 < nI 5
  case neg => exact KB.ex hM noZ (by decide) (by decide) (wx_join1 (c_joinX1 μ hC h1 hx)) (fun μ1 h9 => c_m_joinX1 μ1 h9 h1 hx)
  obtain ⟨n2, rfl, h2⟩ := i_num (by decide) hx
  clear hx
  by_cases hx : 0 ≤ x3 ∧ x3 < nI 5
  case neg => exact KB.ex hM noZ (by decide) (by decide) (wx_join1 (c_joinX2 μ hC h1 h2 hx)) (fun μ1 h9 => c_m_joinX2 μ1 h9 h1 h2 hx)
  obtain ⟨n3, rfl, h3⟩ := i_num (by decide) hx
  clear hx
  by_cases f1 : aFl (qS α) n1 = true
  case neg => exact KB.ex hM noZ (by decide) (by decide) (wx_join2 (c_joinX3 μ hC h1 h2 h3 f1)) (fun μ1 h9 => c_m_joinX3 μ1 h9 h1 h2 h3 f1)
  by_cases f2 : aFl (qS α) n2 = true
  case neg => exact KB.ex hM noZ (by decide) (by decide) (wx_join2 (c_joinX4 μ hC h1 h2 h3 f1 f2)) (fun μ1 h9 => c_m_joinX4 μ1 h9 h1 h2 h3 f1 f2)
  exact KB.ok hM noZ rfl (w_join (c_join μ hC h1 h2 h3 f1 f2)) (fun μ1 h9 => c_m_join μ1 h9 h1 h2 h3 f1 f2)

set_option maxHeartbeats 1000000 in
theorem k_invert (x1 x2 : Int32) (hC : CR μ α) (hM : MR μ α) : KB g adr false yL_invert mL_invert [.ref (adr 0), .int x1, .int x2, .ref (adr 247)] yX8_invert mX8_invert [.ref (adr 237), .int x1, .int x2] μ α := by
  by_cases hx : 0 ≤ x1 ∧ x1 < nI 5
  case neg => exact KB.ex hM noZ (by decide) (by decide) (wx_invert1 (c_invertX0 μ hC  hx)) (fun μ1 h9 => c_m_invertX0 μ1 h9  hx)
  obtain ⟨n1, rfl, h1⟩ := i_num (by decide) hx
  clear hx
  by_cases hx : 0 ≤ x2 ∧ x2 < nI 5
  case neg => exact KB.ex hM noZ (by decide) (by decide) (wx_invert1 (c_invertX1 μ hC h1 hx)) (fun μ1 h9 => c_m_invertX1 μ1 h9 h1 hx)
  obtain ⟨n2, rfl, h2⟩ := i_num (by decide) hx
  clear hx
  by_cases f1 : aFl (qS α) n1 = true
  case neg => exact KB.ex hM noZ (by decide) (by decide) (wx_invert2 (c_invertX2 μ hC h1 h2 f1)) (fun μ1 h9 => c_m_invertX2 μ1 h9 h1 h2 f1)
  exact KB.ok hM noZ rfl (w_invert (c_invert μ hC h1 h2 f1)) (fun μ1 h9 => c_m_invert μ1 h9 h1 h2 f1)

set_option maxHeartbeats 1000000 in
theorem k_commute (x1 x2 x3 : Int32) (hC : CR μ α) (hM : MR μ α) : KB g adr false yL_commute mL_commute [.ref (adr 0), .int x1, .int x2, .int x3, .ref (adr 247)] yX8_commute mX8_commute [.ref (adr 237), .int x1, .int x2, .int x3] μ α := by
  by_cases hx : 0 ≤ x1 ∧ x1 < nI 5
  case neg => exact KB.ex hM noZ (by decide) (by decide) (wx_commute1 (c_commuteX0 μ hC  hx)) (fun μ1 h9 => c_m_commuteX0 μ1 h9  hx)
  obtain ⟨n1, rfl, h1⟩ := i_num (by decide) hx
  clear hx
  by_cases hx : 0 ≤ x2 ∧ x2 < nI 5
  case neg => exact KB.ex hM noZ (by decide) (by decide) (wx_commute1 (c_commuteX1 μ hC h1 hx)) (fun μ1 h9 => c_m_commuteX1 μ1 h9 h1 hx)
  obtain ⟨n2, rfl, h2⟩ := i_num (by decide) hx
  clear hx
  by_cases hx : 0 ≤ x3 ∧ x3 < nI 5
  case neg => exact KB.ex hM noZ (by decide) (by decide) (wx_commute1 (c_commuteX2 μ hC h1 h2 hx)) (fun μ1 h9 => c_m_commuteX2 μ1 h9 h1 h2 hx)
  obtain ⟨n3, rfl, h3⟩ := i_num (by decide) hx
  clear hx
  by_cases f1 : aFl (qS α) n1 = true
  case neg => exact KB.ex hM noZ (by decide) (by decide) (wx_commute2 (c_commuteX3 μ hC h1 h2 h3 f1)) (fun μ1 h9 => c_m_commuteX3 μ1 h9 h1 h2 h3 f1)
  by_cases f2 : aFl (qS α) n2 = true
  case neg => exact KB.ex hM noZ (by decide) (by decide) (wx_commute2 (c_commuteX4 μ hC h1 h2 h3 f1 f2)) (fun μ1 h9 => c_m_commuteX4 μ1 h9 h1 h2 h3 f1 f2)
  exact KB.ok hM noZ rfl (w_commute (c_commute μ hC h1 h2 h3 f1 f2)) (fun μ1 h9 => c_m_commute μ1 h9 h1 h2 h3 f1 f2)

set_option maxHeartbeats 1000000 in
theorem k_forget (x1 : Int32) (hC : CR μ α) (hM : MR μ α) : KB g adr false yL_forget mL_forget [.ref (adr 0), .int x1, .ref (adr 247)] yX8_forget mX8_forget [.ref (adr 237), .int x1] μ α := by
  by_cases hx : 0 ≤ x1 ∧ x1 < nI 5
  case neg => exact KB.ex hM noZ (by decide) (by decide) (wx_forget1 (c_forgetX0 μ hC  hx)) (fun μ1 h9 => c_m_forgetX0 μ1 h9  hx)
  obtain ⟨n1, rfl, h1⟩ := i_num (by decide) hx
  clear hx
  by_cases f1 : aFl (qS α) n1 = true
  case neg => exact KB.ex hM noZ (by decide) (by decide) (wx_forget2 (c_forgetX1 μ hC h1 f1)) (fun μ1 h9 => c_m_forgetX1 μ1 h9 h1 f1)
  exact KB.ok hM noZ rfl (w_forget (c_forget μ hC h1 f1)) (fun μ1 h9 => c_m_forget μ1 h9 h1 f1)

set_option maxHeartbeats 1000000 in
theorem k_goesTo (x1 x2 : Int32) (hC : CR μ α) (hM : MR μ α) : KB g adr false yL_goesTo mL_goesTo [.ref (adr 0), .int x1, .int x2, .ref (adr 247)] yX8_goesTo mX8_goesTo [.ref (adr 237), .int x1, .int x2] μ α := by
  by_cases hx : 0 ≤ x1 ∧ x1 < nI 5
  case neg => exact KB.ex hM noZ (by decide) (by decide) (wx_goesTo1 (c_goesToX0 μ hC  hx)) (fun μ1 h9 => c_m_goesToX0 μ1 h9  hx)
  obtain ⟨n1, rfl, h1⟩ := i_num (by decide) hx
  clear hx
  by_cases hx : 0 ≤ x2 ∧ x2 < nI 32
  case neg => exact KB.ex hM noZ (by decide) (by decide) (wx_goesTo1 (c_goesToX1 μ hC h1 hx)) (fun μ1 h9 => c_m_goesToX1 μ1 h9 h1 hx)
  obtain ⟨n2, rfl, h2⟩ := i_num (by decide) hx
  clear hx
  by_cases f1 : aFl (qS α) n1 = true
  case neg => exact KB.ex hM noZ (by decide) (by decide) (wx_goesTo2 (c_goesToX2 μ hC h1 h2 f1)) (fun μ1 h9 => c_m_goesToX2 μ1 h9 h1 h2 f1)
  exact KB.ok hM noZ rfl (w_goesTo (c_goesTo μ hC h1 h2 f1)) (fun μ1 h9 => c_m_goesTo μ1 h9 h1 h2 f1)

set_option maxHeartbeats 1000000 in
theorem k_cycle (x1 x2 : Int32) (hC : CR μ α) (hM : MR μ α) : KB g adr false yL_cycle mL_cycle [.ref (adr 0), .int x1, .int x2, .ref (adr 247)] yX8_cycle mX8_cycle [.ref (adr 237), .int x1, .int x2] μ α := by
  by_cases hx : 0 ≤ x1 ∧ x1 < nI 5
  case neg => exact KB.ex hM noZ (by decide) (by decide) (wx_cycle1 (c_cycleX0 μ hC  hx)) (fun μ1 h9 => c_m_cycleX0 μ1 h9  hx)
  obtain ⟨n1, rfl, h1⟩ := i_num (by decide) hx
  clear hx
  by_cases hx : 0 ≤ x2 ∧ x2 < nI 32
  case neg => exact KB.ex hM noZ (by decide) (by decide) (wx_cycle1 (c_cycleX1 μ hC h1 hx)) (fun μ1 h9 => c_m_cycleX1 μ1 h9 h1 hx)
  obtain ⟨n2, rfl, h2⟩ := i_num (by decide) hx
  clear hx
  by_cases f1 : aFl (qS α) n1 = true
  case neg => exact KB.ex hM noZ (by decide) (by decide) (wx_cycle2 (c_cycleX2 μ hC h1 h2 f1)) (fun μ1 h9 => c_m_cycleX2 μ1 h9 h1 h2 f1)
  exact KB.ok hM noZ rfl (w_cycle (c_cycle μ hC h1 h2 f1)) (fun μ1 h9 => c_m_cycle μ1 h9 h1 h2 f1)

set_option maxHeartbeats 1000000 in
theorem k_orderAgain (x1 : Int32) (hC : CR μ α) (hM : MR μ α) : KB g adr false yL_orderAgain mL_orderAgain [.ref (adr 0), .int x1, .ref (adr 247)] yX8_orderAgain mX8_orderAgain [.ref (adr 237), .int x1] μ α := by
  by_cases hx : 0 ≤ x1 ∧ x1 < nI 5
  case neg => exact KB.ex hM noZ (by decide) (by decide) (wx_orderAgain1 (c_orderAgainX0 μ hC  hx)) (fun μ1 h9 => c_m_orderAgainX0 μ1 h9  hx)
  obtain ⟨n1, rfl, h1⟩ := i_num (by decide) hx
  clear hx
  by_cases f1 : aFl (qS α) n1 = true
  case neg => exact KB.ex hM noZ (by decide) (by decide) (wx_orderAgain2 (c_orderAgainX1 μ hC h1 f1)) (fun μ1 h9 => c_m_orderAgainX1 μ1 h9 h1 f1)
  exact KB.ok hM noZ rfl (w_orderAgain (c_orderAgain μ hC h1 f1)) (fun μ1 h9 => c_m_orderAgain μ1 h9 h1 f1)

set_option maxHeartbeats 1000000 in
theorem k_commutes (x1 x2 : Int32) (hC : CR μ α) (hM : MR μ α) : KB g adr true yL_commutes mL_commutes [.ref (adr 0), .int x1, .int x2, .ref (adr 247)] yX8_commutes mX8_commutes [.ref (adr 237), .int x1, .int x2] μ α := by
  by_cases hx : 0 ≤ x1 ∧ x1 < nI 5
  case neg => exact KB.ex hM (fun _ => Or.inl rfl) (by decide) (by decide) (wx_commutes1 (c_commutesX0 μ hC  hx)) (fun μ1 h9 => c_m_commutesX0 μ1 h9  hx)
  obtain ⟨n1, rfl, h1⟩ := i_num (by decide) hx
  clear hx
  by_cases hx : 0 ≤ x2 ∧ x2 < nI 5
  case neg => exact KB.ex hM (fun _ => Or.inl rfl) (by decide) (by decide) (wx_commutes1 (c_commutesX1 μ hC h1 hx)) (fun μ1 h9 => c_m_commutesX1 μ1 h9 h1 hx)
  obtain ⟨n2, rfl, h2⟩ := i_num (by decide) hx
  clear hx
  by_cases f1 : aFl (qS α) n1 = true
  case neg => exact KB.ex hM (fun _ => Or.inl rfl) (by decide) (by decide) (wx_commutes2 (c_commutesX2 μ hC h1 h2 f1)) (fun μ1 h9 => c_m_commutesX2 μ1 h9 h1 h2 f1)
  by_cases f2 : aFl (qS α) n2 = true
  case neg => exact KB.ex hM (fun _ => Or.inl rfl) (by decide) (by decide) (wx_commutes2 (c_commutesX3 μ hC h1 h2 f1 f2)) (fun μ1 h9 => c_m_commutesX3 μ1 h9 h1 h2 f1 f2)
  exact KB.ok hM (fun _ => ite01) rfl (w_commutes (c_commutes μ hC h1 h2 f1 f2)) (fun μ1 h9 => c_m_commutes μ1 h9 h1 h2 f1 f2)

set_option maxHeartbeats 1000000 in
theorem k_line (x1 : Int32) (hC : CR μ α) (hM : MR μ α) : KB g adr false yL_line mL_line [.ref (adr 0), .int x1, .ref (adr 247)] yX8_line mX8_line [.ref (adr 237), .int x1] μ α := by
  by_cases hx : 0 ≤ x1 ∧ x1 < nI 4
  case neg => exact KB.ex hM noZ (by decide) (by decide) (wx_line1 (c_lineX0 μ hC  hx)) (fun μ1 h9 => c_m_lineX0 μ1 h9  hx)
  obtain ⟨n1, rfl, h1⟩ := i_num (by decide) hx
  clear hx
  exact KB.ok hM noZ rfl (w_line (c_line μ hC h1)) (fun μ1 h9 => c_m_line μ1 h9 h1)

set_option maxHeartbeats 1000000 in
theorem k_cycleLine (x1 : Int32) (hC : CR μ α) (hM : MR μ α) : KB g adr false yL_cycleLine mL_cycleLine [.ref (adr 0), .int x1, .ref (adr 247)] yX8_cycleLine mX8_cycleLine [.ref (adr 237), .int x1] μ α := by
  by_cases hx : 0 ≤ x1 ∧ x1 < nI 5
  case neg => exact KB.ex hM noZ (by decide) (by decide) (wx_cycleLine1 (c_cycleLineX0 μ hC  hx)) (fun μ1 h9 => c_m_cycleLineX0 μ1 h9  hx)
  obtain ⟨n1, rfl, h1⟩ := i_num (by decide) hx
  clear hx
  by_cases f1 : aFl (qS α) n1 = true
  case neg => exact KB.ex hM noZ (by decide) (by decide) (wx_cycleLine2 (c_cycleLineX1 μ hC h1 f1)) (fun μ1 h9 => c_m_cycleLineX1 μ1 h9 h1 f1)
  exact KB.ok hM noZ rfl (w_cycleLine (c_cycleLine μ hC h1 f1)) (fun μ1 h9 => c_m_cycleLine μ1 h9 h1 f1)

set_option maxHeartbeats 1000000 in
theorem k_character (x1 : Int32) (hC : CR μ α) (hM : MR μ α) : KB g adr false yL_character mL_character [.ref (adr 0), .int x1, .ref (adr 247)] yX8_character mX8_character [.ref (adr 237), .int x1] μ α := by
  by_cases hx : 0 ≤ x1 ∧ x1 < nI (qL α).1
  case neg => exact KB.ex hM noZ (by decide) (by decide) (wx_character1 (c_characterX0 μ hC  hx)) (fun μ1 h9 => c_m_characterX μ1 h9  hx)
  obtain ⟨n1, rfl, h1⟩ := i_num (by have h9 := hC.2.2.2.2.2.2.2.1; omega) hx
  clear hx
  exact KB.ok hM noZ rfl (w_character (c_character μ hC h1)) (fun μ1 h9 => c_m_character μ1 h9 h1)

set_option maxHeartbeats 1000000 in
theorem k_isEven (x1 : Int32) {j : Nat} (hj : j = 0 ∨ j = 1) (hC : CR μ α) (hM : MR μ α) : KB g adr true yL_isEven mL_isEven [.ref (adr 0), .int x1, .int (nI j), .ref (adr 247)] yX8_isEven mX8_isEven [.ref (adr 237), .int x1, .int (nI j)] μ α := by
  by_cases hx : 0 ≤ x1 ∧ x1 < nI 5
  case neg => exact KB.ex hM (fun _ => Or.inl rfl) (by decide) (by decide) (wx_isEven1 (c_isEvenX0 μ hC  hx)) (fun μ1 h9 => c_m_isEvenX0 μ1 h9  hx)
  obtain ⟨n1, rfl, h1⟩ := i_num (by decide) hx
  clear hx
  by_cases f1 : aFl (qS α) n1 = true
  case neg => exact KB.ex hM (fun _ => Or.inl rfl) (by decide) (by decide) (wx_isEven2 (c_isEvenX1 μ hC h1 f1)) (fun μ1 h9 => c_m_isEvenX1 μ1 h9 h1 f1)
  rcases hj with rfl | rfl
  · exact KB.ok hM (fun _ => ite01) rfl (w_isEven (c_isEven0 μ hC h1 f1)) (fun μ1 h9 => c_m_isEven μ1 h9 h1 f1)
  · have hs := sign_eq (hC.1.vs.2.2.2.2 n1 h1 f1)
    exact KB.ok hM (fun _ => ite01) (by by_cases q : evC (aSh (qS α) n1) = true
                                        · rw [if_pos q, if_pos (hs.mpr q)]
                                        · rw [if_neg q, if_neg (fun z => q (hs.mp z))]) (w_isEven (c_isEven1 μ hC h1 f1)) (fun μ1 h9 => c_m_isEven μ1 h9 h1 f1)

set_option maxHeartbeats 1000000 in
theorem k_shelfOf (x1 x2 : Int32) (hC : CR μ α) (hM : MR μ α) : KB g adr false yL_shelfOf mL_shelfOf [.ref (adr 0), .int x1, .int x2, .ref (adr 247)] yX8_shelfOf mX8_shelfOf [.ref (adr 237), .int x1, .int x2] μ α := by
  by_cases hx : 0 ≤ x1 ∧ x1 < nI 5
  case neg => exact KB.ex hM noZ (by decide) (by decide) (wx_shelfOf1 (c_shelfOfX0 μ hC  hx)) (fun μ1 h9 => c_m_shelfOfX0 μ1 h9  hx)
  obtain ⟨n1, rfl, h1⟩ := i_num (by decide) hx
  clear hx
  by_cases hx : x2 < nI 0 ∨ nI 3 < x2
  case pos => exact KB.ex hM noZ (by decide) (by decide) (wx_shelfOf2 (c_shelfOfX1 μ hC h1 hx)) (fun μ1 h9 => c_m_shelfOfX1 μ1 h9 h1 hx)
  obtain ⟨n2, rfl, h2, h2b⟩ := i_rng (by decide) (by decide) hx
  clear hx
  by_cases f1 : aFl (qS α) n1 = true
  case neg => exact KB.ex hM noZ (by decide) (by decide) (wx_shelfOf3 (c_shelfOfX2 μ hC h1 h2 h2b f1)) (fun μ1 h9 => c_m_shelfOfX2 μ1 h9 h1 h2 h2b f1)
  obtain rfl | rfl | rfl | rfl : n2 = 0 ∨ n2 = 1 ∨ n2 = 2 ∨ n2 = 3 := by omega
  · exact KB.ok hM noZ rfl (w_shelfOf (c_shelfOf0 μ hC h1 f1)) (fun μ1 h9 => c_m_shelfOf0 μ1 h9 h1 f1)
  · exact KB.ok hM noZ rfl (w_shelfOf (c_shelfOf1 μ hC h1 f1)) (fun μ1 h9 => c_m_shelfOf1 μ1 h9 h1 f1)
  · exact KB.ok hM noZ rfl (w_shelfOf (c_shelfOf2 μ hC h1 f1)) (fun μ1 h9 => c_m_shelfOf2 μ1 h9 h1 f1)
  · exact KB.ok hM noZ rfl (w_shelfOf (c_shelfOf3 μ hC h1 f1)) (fun μ1 h9 => c_m_shelfOf3 μ1 h9 h1 f1)

set_option maxHeartbeats 1000000 in
theorem k_paint (x1 x2 : Int32) (hC : CR μ α) (hM : MR μ α) : KB g adr false yL_paint mL_paint [.ref (adr 0), .int x1, .int x2, .ref (adr 247)] yX8_paint mX8_paint [.ref (adr 237), .int x1, .int x2] μ α := by
  by_cases hx : 0 ≤ x1 ∧ x1 < nI 32
  case neg => exact KB.ex hM noZ (by decide) (by decide) (wx_paint1 (c_paintX0 μ hC  hx)) (fun μ1 h9 => c_m_paintX0 μ1 h9  hx)
  obtain ⟨n1, rfl, h1⟩ := i_num (by decide) hx
  clear hx
  by_cases hx : x2 < nI 0 ∨ nI 5 < x2
  case pos => exact KB.ex hM noZ (by decide) (by decide) (wx_paint2 (c_paintX1 μ hC h1 hx)) (fun μ1 h9 => c_m_paintX1 μ1 h9 h1 hx)
  obtain ⟨n2, rfl, h2, h2b⟩ := i_rng (by decide) (by decide) hx
  clear hx
  by_cases hq : aCol (qS α) n1 = n2
  · exact KB.ex hM noZ (by decide) (by decide) (wx_paint3 (c_paintX2 μ hC h1 h2 h2b hq)) (fun μ1 h9 => c_m_paintX2 μ1 h9 h1 h2 h2b hq)
  · exact KB.ok hM noZ rfl (w_paint (c_paint μ hC h1 h2 h2b hq)) (fun μ1 h9 => c_m_paint μ1 h9 h1 h2 h2b hq)

set_option maxHeartbeats 1000000 in
theorem k_account (x1 : Int32) (hC : CR μ α) (hM : MR μ α) : KB g adr false yL_account mL_account [.ref (adr 0), .int x1, .ref (adr 247)] yX8_account mX8_account [.ref (adr 237), .int x1] μ α := by
  by_cases hx : x1 < nI 0 ∨ nI 7 < x1
  case pos => exact KB.ex hM noZ (by decide) (by decide) (wx_account1 (c_accX μ hC (acc_x hx))) (fun μ1 h9 => c_m_accountX0 μ1 h9 hx)
  obtain ⟨n1, rfl, h1, h1b⟩ := i_rng (by decide) (by decide) hx
  clear hx
  obtain rfl | rfl | rfl | rfl | rfl | rfl | rfl | rfl : n1 = 0 ∨ n1 = 1 ∨ n1 = 2 ∨ n1 = 3 ∨ n1 = 4 ∨ n1 = 5 ∨ n1 = 6 ∨ n1 = 7 := by omega
  · exact KB.ok hM noZ rfl (w_account (c_acc0 μ hC )) (fun μ1 h9 => c_m_acc0 μ1 h9 )
  · exact KB.ok hM noZ rfl (w_account (c_acc1 μ hC )) (fun μ1 h9 => c_m_acc1 μ1 h9 )
  · exact KB.ok hM noZ rfl (w_account (c_acc2 μ hC )) (fun μ1 h9 => c_m_acc2 μ1 h9 )
  · exact KB.ok hM noZ rfl (w_account (c_acc3 μ hC )) (fun μ1 h9 => c_m_acc3 μ1 h9 )
  · exact KB.ok hM noZ rfl (w_account (c_acc4 μ hC )) (fun μ1 h9 => c_m_acc4 μ1 h9 )
  · exact KB.ok hM noZ rfl (w_account (c_acc5 μ hC )) (fun μ1 h9 => c_m_acc5 μ1 h9 )
  · exact KB.ok hM noZ rfl (w_account (c_acc6 μ hC )) (fun μ1 h9 => c_m_acc6 μ1 h9 )
  · exact KB.ok hM noZ rfl (w_account (c_acc7 μ hC )) (fun μ1 h9 => c_m_acc7 μ1 h9 )

set_option maxHeartbeats 1000000 in
theorem k_use (x1 x2 : Int32) (hC : CR μ α) (hM : MR μ α) : KB g adr false yL_use mL_use [.ref (adr 0), .int x1, .int x2, .ref (adr 247)] yX8_use mX8_use [.ref (adr 237), .int x1, .int x2] μ α := by
  by_cases hx : 0 ≤ x1 ∧ x1 < nI 5
  case neg => exact KB.ex hM noZ (by decide) (by decide) (wx_use1 (c_useX0 μ hC  hx)) (fun μ1 h9 => c_m_useX0 μ1 h9  hx)
  obtain ⟨n1, rfl, h1⟩ := i_num (by decide) hx
  clear hx
  by_cases h0 : 0 ≤ x2
  · by_cases hx : x2 < nI 1 ∨ nI 99 < x2
    · exact KB.ex hM noZ (by decide) (by decide) (wx_use2 (c_useX1p μ hC h1 h0 hx)) (fun μ1 h9 => c_m_useX1 μ1 h9 h1 (use_p h0 hx))
    obtain ⟨t, rfl, h2, h2b⟩ := i_rng (by decide) (by decide) hx
    by_cases f1 : aFl (qS α) n1 = true
    · exact KB.ok hM noZ rfl (w_use (c_useOkp μ hC h1 h2 h2b f1)) (fun μ1 h9 => c_m_useOkp μ1 h9 h1 h2 h2b f1)
    · exact KB.ex hM noZ (by decide) (by decide) (wx_use3 (c_useX2p μ hC h1 h2 h2b f1)) (fun μ1 h9 => c_m_useX2p μ1 h9 h1 h2 h2b f1)
  · by_cases hx : -x2 < nI 1 ∨ nI 99 < -x2
    · exact KB.ex hM noZ (by decide) (by decide) (wx_use2 (c_useX1n μ hC h1 h0 hx)) (fun μ1 h9 => c_m_useX1 μ1 h9 h1 (use_n h0 hx))
    obtain ⟨t, ht, h2, h2b⟩ := i_rng (by decide) (by decide) hx
    obtain rfl : x2 = -(nI t) := by rw [← ht, Int32.neg_neg]
    by_cases f1 : aFl (qS α) n1 = true
    · exact KB.ok hM noZ rfl (w_use (c_useOkn μ hC h1 h2 h2b f1)) (fun μ1 h9 => c_m_useOkn μ1 h9 h1 h2 h2b f1)
    · exact KB.ex hM noZ (by decide) (by decide) (wx_use3 (c_useX2n μ hC h1 h2 h2b f1)) (fun μ1 h9 => c_m_useX2n μ1 h9 h1 h2 h2b f1)

set_option maxHeartbeats 1000000 in
theorem k_back (hC : CR μ α) (hM : MR μ α) : KB g adr false yL_back mL_back [.ref (adr 0), .ref (adr 247)] yX8_back mX8_back [.ref (adr 237)] μ α := by
  by_cases h0 : aLn (qS α) = 0
  · exact KB.ex hM noZ (by decide) (by decide) (wx_back1 (c_backX μ hC h0)) (fun μ1 h9 => c_m_backX μ1 h9 h0)
  · obtain ⟨x, hx⟩ : ∃ x, aLn (qS α) = x + 1 := ⟨aLn (qS α) - 1, by omega⟩
    have hm := hC.1.vs.2.2.2.1 x (by omega)
    rcases mv_inv hm with ⟨ha, -⟩ | ⟨ha, -⟩
    · rw [ha] at hm
      exact KB.ok hM noZ rfl (w_back (c_back0 μ hC hx ha rfl rfl hm)) (fun μ1 h9 => c_m_back0 μ1 h9 hx ha rfl rfl hm)
    · rw [ha] at hm
      exact KB.ok hM noZ rfl (w_back (c_back1 μ hC hx ha rfl rfl hm)) (fun μ1 h9 => c_m_back1 μ1 h9 hx ha rfl rfl hm)

set_option maxHeartbeats 1000000 in
theorem k_read (hC : CR μ α) (hM : MR μ α) : KB g adr false yL_read mL_read [.ref (adr 0), .ref (adr 247)] yX8_read mX8_read [.ref (adr 237)] μ α := by
  rcases hr0 : pTxt (qI α).2 (qI α).1 (qS α) with e | ⟨q, c, F⟩
  · exact KB.ex hM noZ (by decide) (by decide) (wx_read1 (c_readW μ hC hr0)) (fun μ1 h9 => c_m_readW μ1 h9 hr0)
  · by_cases hc : c ≤ 200
    · exact KB.ok hM noZ rfl (w_read (c_readOk μ hC hr0 hc)) (fun μ1 h9 => c_m_readOk μ1 h9 hr0 hc)
    · exact KB.ex hM noZ (by decide) (by decide) (wx_read2 (c_readX μ hC hr0 (by omega))) (fun μ1 h9 => c_m_readX μ1 h9 hr0 (by omega))

set_option maxHeartbeats 1000000 in
theorem k_learn (x1 : Int32) (hC : CR μ α) (hM : MR μ α) : KB g adr false yL_learn mL_learn [.ref (adr 0), .int x1, .ref (adr 247)] yX8_learn mX8_learn [.ref (adr 237), .int x1] μ α := by
  by_cases hx : 0 ≤ x1 ∧ x1 < nI 5
  case neg => exact KB.ex hM noZ (by decide) (by decide) (wx_learn1 (c_learnX0 μ hC hx)) (fun μ1 h9 => c_m_learnX0 μ1 h9 hx)
  obtain ⟨n1, rfl, h1⟩ := i_num (by decide) hx
  rcases hr0 : pTxt (qI α).2 (qI α).1 (qS α) with e | ⟨q, c, F⟩
  · exact KB.ex hM noZ (by decide) (by decide) (wx_learn2 (c_learnW μ hC hr0 h1)) (fun μ1 h9 => c_m_learnW μ1 h9 hr0 h1)
  · by_cases hc : c ≤ 200
    · exact KB.ok hM noZ rfl (w_learn (c_learnOk μ hC hr0 hc h1)) (fun μ1 h9 => c_m_learnOk μ1 h9 hr0 hc h1)
    · exact KB.ex hM noZ (by decide) (by decide) (wx_learn3 (c_learnX μ hC hr0 (by omega) h1)) (fun μ1 h9 => c_m_learnX μ1 h9 hr0 (by omega) h1)

set_option maxHeartbeats 1000000 in
theorem k_errorPosition (hC : CR μ α) (hM : MR μ α) : KB g adr false yL_errorPosition mL_errorPosition [.ref (adr 0), .ref (adr 247)] yX8_errorPosition mX8_errorPosition [.ref (adr 237)] μ α := by
  rcases hx : qE α with _ | e
  · exact KB.ex hM noZ (by decide) (by decide) (wx_errorPosition1 (c_errX μ hC hx)) (fun μ1 h9 => c_m_errX μ1 h9 hx)
  · exact KB.ok hM noZ rfl (w_errorPosition (c_errOk μ hC hx)) (fun μ1 h9 => c_m_errOk μ1 h9 hx)

set_option maxHeartbeats 1000000 in
theorem k_refusal {j : Nat} (hj : j = 0 ∨ j = 1) (hC : CR μ α) (hM : MR μ α) : KB g adr false yL_refusal mL_refusal [.ref (adr 0), .int (nI j), .ref (adr 247)] yX8_refusal mX8_refusal [.ref (adr 237), .int (nI j)] μ α := by
  rcases hx : qR α with _ | ⟨a, d⟩
  · exact KB.ex hM noZ (by decide) (by decide) (wx_refusal1 (c_refX μ hC hx)) (fun μ1 h9 => c_m_refX μ1 h9 hx)
  · rcases hj with rfl | rfl
    · exact KB.ok hM noZ rfl (w_refusal (c_refOk0 μ hC hx)) (fun μ1 h9 => c_m_refOk0 μ1 h9 hx)
    · exact KB.ok hM noZ rfl (w_refusal (c_refOk1 μ hC hx)) (fun μ1 h9 => c_m_refOk1 μ1 h9 hx)

set_option maxHeartbeats 1000000 in
theorem k_append {c : Nat} (hc : c < 65536) (hC : CR μ α) (hM : MR μ α) : KB g adr false yL_append mL_append [.ref (adr 0), .int (nI c), .ref (adr 247)] yX8_append mX8_append [.ref (adr 237), .int (nI c)] μ α := by
  by_cases hx : 60 ≤ (qI α).1
  · exact KB.ex hM noZ (by decide) (by decide) (wx_append1 (c_appendX μ hC hx)) (fun μ1 h9 => c_m_appendX μ1 h9 hx)
  · exact KB.ok hM noZ rfl (w_append (c_append μ hC hc (by omega))) (fun μ1 h9 => c_m_append μ1 h9 hc (by omega))

set_option maxHeartbeats 1000000 in
theorem k_undo (hC : CR μ α) (hM : MR μ α) : KB g adr false yL_undo mL_undo [.ref (adr 0), .ref (adr 247)] yX8_undo mX8_undo [.ref (adr 237)] μ α := by
  by_cases hx : qN α = 0
  · exact KB.ex hM noZ (by decide) (by decide) (wx_undo1 (c_undoX μ hC hx)) (fun μ1 h9 => c_m_undoX μ1 h9 hx)
  · exact KB.ok hM noZ rfl (w_undo (c_undo μ hC (by omega))) (fun μ1 h9 => c_m_undo μ1 h9 (by omega))

set_option maxHeartbeats 1000000 in
theorem k_restore (hC : CR μ α) (hM : MR μ α) : KB g adr false yL_restore mL_restore [.ref (adr 0), .ref (adr 247)] yX8_restore mX8_restore [.ref (adr 237)] μ α := by
  by_cases hx : qB α = true
  · exact KB.ok hM noZ rfl (w_restore (c_restOk μ hC hx)) (fun μ1 h9 => c_m_restOk μ1 h9 hx)
  · exact KB.ex hM noZ (by decide) (by decide) (wx_restore1 (c_restX μ hC hx)) (fun μ1 h9 => c_m_restX μ1 h9 hx)
end KK
