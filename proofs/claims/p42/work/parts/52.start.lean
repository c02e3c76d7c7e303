/-! ===== the world at the loop's entry ===== -/
def α0 : A7 := (σ0, (0, fun _ => σ0), (false, σ0), t0, t0, none, none)
theorem len_S {g : GP} {b : Nat} {blk : va_W} (h : PX6 g b blk) : blk.length = 19 := by
  obtain ⟨_, _, _, _, _, _, _, _, _, _, _, _, _, _, _, _, _, _, _, _, rfl⟩ := h
  rfl
theorem len_R {g : GP} {b : Nat} {blk : va_W} (h : PX4 g b blk) : blk.length = 38 := by
  obtain ⟨_, _, _, _, _, _, _, _, _, _, _, _, _, _, _, _, _, rfl⟩ := h
  rfl
theorem len_G {g : GP} {b : Nat} {blk : va_W} (h : PX5 g b blk) : blk.length = 2 := by
  obtain ⟨_, rfl⟩ := h
  rfl
theorem len_P {g : GP} {b : Nat} {blk : va_W} (h : PX3 g b blk) : blk.length = 2 := by
  obtain ⟨_, _, _, rfl⟩ := h
  rfl
theorem app_len {α : Type} {a b : List α} {n m : Nat} (h1 : a.length = n) (h2 : b.length = m) : (a ++ b).length = n + m := by rw [List.length_append, h1, h2]
theorem cells_Past {g : GP} {W : va_W} {b : Nat} {blk : va_W} (h : PX2 g b blk) (hA : AT W 20 blk) : blk.length = 154 ∧ adrW W 20 = b ∧ (∀ i, 20 ≤ i → i < 174 → CellOK g W i) ∧ memW W 20 1 = nI 0 := by
  obtain ⟨ar, f, sb, bl, hbl, hf, rfl⟩ := h
  have L : ∀ j, j < 8 → (bl j).length = 19 := fun j hj => len_S (hbl j hj)
  have l1 := app_len (L 0 (by decide)) (L 1 (by decide))
  have l2 := app_len l1 (L 2 (by decide))
  have l3 := app_len l2 (L 3 (by decide))
  have l4 := app_len l3 (L 4 (by decide))
  have l5 := app_len l4 (L 5 (by decide))
  have l6 := app_len l5 (L 6 (by decide))
  have l7 := app_len l6 (L 7 (by decide))
  have w20 : W[20]? = some (b, .inr (2, [.ref ar, .int (nI 0)])) := hA 0 (by rw [List.length_cons]; omega)
  have w21 : W[21]? = some (ar, .inl (g.2.2 5, 8, .inr (.inr (.inr (.inr f))))) := hA 1 (by rw [List.length_cons, List.length_cons]; omega)
  have hT : AT W 22 (((((((bl 0 ++ bl 1) ++ bl 2) ++ bl 3) ++ bl 4) ++ bl 5) ++ bl 6) ++ bl 7) := (show AT W 21 _ from hA.tail).tail
  have t7 : AT W (22 + 19 * 7) (bl 7) := hT.right l6
  have hT := hT.left
  have t6 : AT W (22 + 19 * 6) (bl 6) := hT.right l5
  have hT := hT.left
  have t5 : AT W (22 + 19 * 5) (bl 5) := hT.right l4
  have hT := hT.left
  have t4 : AT W (22 + 19 * 4) (bl 4) := hT.right l3
  have hT := hT.left
  have t3 : AT W (22 + 19 * 3) (bl 3) := hT.right l2
  have hT := hT.left
  have t2 : AT W (22 + 19 * 2) (bl 2) := hT.right l1
  have hT := hT.left
  have t1 : AT W (22 + 19 * 1) (bl 1) := hT.right (L 0 (by decide))
  have t9 : AT W (22 + 19 * 0) (bl 0) := hT.left
  have hS : ∀ j, j < 8 → adrW W (22 + 19 * j) = sb j ∧ ∀ i, i < 19 → CellOK g W (22 + 19 * j + i) := by
    have key : ∀ j, (hj : j < 8) → AT W (22 + 19 * j) (bl j) → (∀ i, i < 19 → kt (22 + 19 * j + i) = [5, 2, 1032, 1032, 1032, 3, 1120, 4, 30005, 1, 1032, 1, 1032, 1, 1032, 1, 1032, 1, 1032].getD i 0) → adrW W (22 + 19 * j) = sb j ∧ ∀ i, i < 19 → CellOK g W (22 + 19 * j + i) := fun j hj ht hk => by
      have h := cells_S (hbl j hj) ht hk (Or.inl (by omega))
      exact ⟨h.1, h.2.1⟩
    exact eight (key 0 (by decide) t9 (by decide)) (key 1 (by decide) t1 (by decide)) (key 2 (by decide) t2 (by decide)) (key 3 (by decide) t3 (by decide)) (key 4 (by decide) t4 (by decide)) (key 5 (by decide) t5 (by decide)) (key 6 (by decide) t6 (by decide)) (key 7 (by decide) t7 (by decide))
  have a20 : adrW W 20 = b := adr_of w20
  have a21 : adrW W 21 = ar := adr_of w21
  have m20 : memW W 20 1 = nI 0 := by rw [mem_of w20 (by decide)]; rfl
  refine ⟨?_, a20, fun i h1 h2 => ?_, m20⟩
  · rw [List.length_cons, List.length_cons]; omega
  · by_cases e0 : i = 20
    · subst e0
      exact ⟨_, _, w20, EE.of (by rw [show kt 20 = 6 from rfl]; show (_ : va_E) = Sum.inr (2, ([.ref (adrW W 21), .int (memW W 20 1)] : List Value)); rw [a21, m20])⟩
    · by_cases e1 : i = 21
      · subst e1
        refine ⟨_, _, w21, ?_⟩
        rw [show kt 21 = 7 from rfl]
        refine EE.arr (f' := fun j => some (adrW W (22 + 19 * (memW W 21 j).toNatClampNeg))) (fun j hj => ?_)
        show f j = some (adrW W (22 + 19 * (memW W 21 j).toNatClampNeg))
        rw [show memW W 21 j = nI j from if_pos rfl, nI_clamp (by omega), (hS j hj).1]
        exact hf j hj
      · have := (hS ((i - 22) / 19) (by omega)).2 ((i - 22) % 19) (by omega)
        rwa [show 22 + 19 * ((i - 22) / 19) + (i - 22) % 19 = i by omega] at this
set_option maxHeartbeats 4000000 in
theorem start_world {g : GP} {W : va_W} {q7 : Nat} (h7 : PX7 g q7 W) :
    (∀ i, i < 237 → CellOK g W i) ∧ adrW W 0 = q7 ∧ CR (memW W) α0 := by
  have hA0 : AT W 0 W := fun i hi => by rw [Nat.zero_add]
  obtain ⟨b1, b2, b3, b4, b5, b6, b7, B1, B2, B3, B4, B5, B6, B7, p1, p2, p3, p4, p5, p6, p7, hW⟩ := h7
  rw [show AT W 0 W = AT W 0 _ from congrArg (AT W 0) hW] at hA0
  have c1 := len_S p1
  have c3 := len_S p3
  have c4 := len_R p4
  have c5 := len_G p5
  have c6 := len_P p6
  have c7 := len_P p7
  have hL := hA0
  have w0 : W[0]? = some (q7, .inr (7, [.ref b1, .ref b2, .ref b3, .int (nI 0), .ref b4, .ref b5, .ref b6, .ref b7, .int (-1), .int (-1), .int (nI 0)])) := hL 0 (by rw [List.length_cons]; omega)
  have hT : AT W 1 ((((((B1 ++ B2) ++ B3) ++ B4) ++ B5) ++ B6) ++ B7) := hL.tail
  have s1 := cells_S p1 (show AT W 1 B1 from hT.left.left.left.left.left.left) (by decide) (Or.inr (by decide))
  have s2 := cells_Past p2 (show AT W (1 + 19) B2 from hT.left.left.left.left.left.right c1)
  have l2 := app_len c1 s2.1
  have l3 := app_len l2 c3
  have l4 := app_len l3 c4
  have l5 := app_len l4 c5
  have l6 := app_len l5 c6
  have l7 := app_len l6 c7
  have s3 := cells_S p3 (show AT W 174 B3 from hT.left.left.left.left.right l2) (by decide) (Or.inl (by decide))
  have s4 := cells_R p4 (show AT W 193 B4 from hT.left.left.left.right l3) (by decide) (Or.inl (by decide))
  have s5 := cells_G p5 (show AT W 231 B5 from hT.left.left.right l4) (by decide) (Or.inl (by decide))
  have s6 := cells_P p6 (show AT W 233 B6 from hT.left.right l5) (by decide) (Or.inl (by decide))
  have s7 := cells_P p7 (show AT W 235 B7 from hT.right l6) (by decide) (Or.inl (by decide))
  have a0 : adrW W 0 = q7 := adr_of w0
  have m0 : memW W 0 = _ := mem_of w0 (by decide)
  have k0 : CellOK g W 0 := ⟨_, _, w0, EE.of (by
    rw [show kt 0 = 13 from rfl]
    show (_ : va_E) = Sum.inr (7, ([.ref (adrW W 1), .ref (adrW W 20), .ref (adrW W 174), .int (memW W 0 3), .ref (adrW W 193), .ref (adrW W 231), .ref (adrW W 233), .ref (adrW W 235), .int (memW W 0 8), .int (memW W 0 9), .int (memW W 0 10)] : List Value))
    rw [s1.1, s2.2.1, s3.1, s4.1, s5.1, s6.1, s7.1, m0]; rfl)⟩
  refine ⟨fun i hi => ?_, a0, ?_⟩
  · by_cases e0 : i = 0
    · rw [e0]; exact k0
    · by_cases e1 : i < 20
      · have := s1.2.1 (i - 1) (by omega)
        rwa [show 1 + (i - 1) = i by omega] at this
      · by_cases e2 : i < 174
        · exact s2.2.2.1 i (by omega) e2
        · by_cases e3 : i < 193
          · have := s3.2.1 (i - 174) (by omega)
            rwa [show 174 + (i - 174) = i by omega] at this
          · by_cases e4 : i < 231
            · have := s4.2.1 (i - 193) (by omega)
              rwa [show 193 + (i - 193) = i by omega] at this
            · by_cases e5 : i < 233
              · have := s5.2.1 (i - 231) (by omega)
                rwa [show 231 + (i - 231) = i by omega] at this
              · by_cases e6 : i < 235
                · have := s6.2 (i - 233) (by omega)
                  rwa [show 233 + (i - 233) = i by omega] at this
                · have := s7.2 (i - 235) (by omega)
                  rwa [show 235 + (i - 235) = i by omega] at this
  · refine ⟨s1.2.2, ⟨s2.2.2.2, Nat.zero_le _, fun j => j, fun j hj => ⟨if_pos rfl, hj⟩, fun i j _ _ h => h, fun j hj => absurd hj (Nat.not_lt_zero j)⟩, ?_, (fun h => by cases h), ⟨s4.2.2, fun k hk => absurd hk (Nat.not_lt_zero k)⟩, Nat.zero_le _, ⟨s5.2.2, fun k hk => absurd hk (Nat.not_lt_zero k)⟩, Nat.zero_le _, ?_, ?_⟩
    · rw [m0]; rfl
    · show memW W 0 8 = -1
      rw [m0]; rfl
    · show memW W 0 9 = -1
      rw [m0]; rfl
