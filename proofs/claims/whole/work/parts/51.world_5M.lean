/-! ===== printed: cells ===== -/
set_option maxHeartbeats 4000000 in
theorem cells_M {g : GP} {W : va_W} {o b : Nat} {blk : va_W} (h : PX8 g b blk) (hA : AT W o blk) (ho : ∀ i, i < 10 → kt (o + i) = [14, 1352, 1352, 1352, 3816, 7400, 1200, 1032, 20060, 20200].getD i 0) (h21 : 21 < o ∨ o + 10 ≤ 21) : adrW W o = b ∧ (∀ i, i < 10 → CellOK g W (o + i)) ∧ (∀ k, k < 352 → memW W (o + 1) k = s0 32 k) ∧ (∀ j, j = 3 ∨ j = 5 ∨ j = 7 ∨ j = 14 ∨ j = 19 → memW W o j = 0) ∧ memW W o 17 = -1 := by
  obtain ⟨a1, a2, a3, a4, a5, a6, a7, a8, a9, m, hm, rfl⟩ := h
  have w0v := hA 0 (Nat.le_of_ble_eq_true rfl)
  have a0v : adrW W (o) = b := adr_of w0v
  have m0v := mem_of w0v (by omega)
  have k0v : kt (o) = 14 := ho 0 (by decide)
  have w1v := hA 1 (Nat.le_of_ble_eq_true rfl)
  have a1v : adrW W (o + 1) = a1 := adr_of w1v
  have m1v := mem_of w1v (by omega)
  have k1v : kt (o + 1) = 1352 := ho 1 (by decide)
  have w2v := hA 2 (Nat.le_of_ble_eq_true rfl)
  have a2v : adrW W (o + 2) = a2 := adr_of w2v
  have m2v := mem_of w2v (by omega)
  have k2v : kt (o + 2) = 1352 := ho 2 (by decide)
  have w3v := hA 3 (Nat.le_of_ble_eq_true rfl)
  have a3v : adrW W (o + 3) = a3 := adr_of w3v
  have m3v := mem_of w3v (by omega)
  have k3v : kt (o + 3) = 1352 := ho 3 (by decide)
  have w4v := hA 4 (Nat.le_of_ble_eq_true rfl)
  have a4v : adrW W (o + 4) = a4 := adr_of w4v
  have m4v := mem_of w4v (by omega)
  have k4v : kt (o + 4) = 3816 := ho 4 (by decide)
  have w5v := hA 5 (Nat.le_of_ble_eq_true rfl)
  have a5v : adrW W (o + 5) = a5 := adr_of w5v
  have m5v := mem_of w5v (by omega)
  have k5v : kt (o + 5) = 7400 := ho 5 (by decide)
  have w6v := hA 6 (Nat.le_of_ble_eq_true rfl)
  have a6v : adrW W (o + 6) = a6 := adr_of w6v
  have m6v := mem_of w6v (by omega)
  have k6v : kt (o + 6) = 1200 := ho 6 (by decide)
  have w7v := hA 7 (Nat.le_of_ble_eq_true rfl)
  have a7v : adrW W (o + 7) = a7 := adr_of w7v
  have m7v := mem_of w7v (by omega)
  have k7v : kt (o + 7) = 1032 := ho 7 (by decide)
  have w8v := hA 8 (Nat.le_of_ble_eq_true rfl)
  have a8v : adrW W (o + 8) = a8 := adr_of w8v
  have m8v := mem_of w8v (by omega)
  have k8v : kt (o + 8) = 20060 := ho 8 (by decide)
  have w9v := hA 9 (Nat.le_of_ble_eq_true rfl)
  have a9v : adrW W (o + 9) = a9 := adr_of w9v
  have m9v := mem_of w9v (by omega)
  have k9v : kt (o + 9) = 20200 := ho 9 (by decide)
  have c0v : CellOK g W (o) := ⟨_, _, w0v, EE.of (by rw [k0v]; show (_ : va_E) = Sum.inr (8, ([.ref (adrW W (o + 1)), .ref (adrW W (o + 2)), .ref (adrW W (o + 3)), .int (memW W (o) 3), .ref (adrW W (o + 4)), .int (memW W (o) 5), .int (memW W (o) 6), .int (memW W (o) 7), .int (memW W (o) 8), .ref (adrW W (o + 5)), .ref (adrW W (o + 6)), .int (memW W (o) 11), .ref (adrW W (o + 7)), .ref (adrW W (o + 8)), .int (memW W (o) 14), .int (memW W (o) 15), .int (memW W (o) 16), .int (memW W (o) 17), .ref (adrW W (o + 9)), .int (memW W (o) 19)] : List Value)); rw [a1v, a2v, a3v, a4v, a5v, a6v, a7v, a8v, a9v, show memW W (o) = _ from m0v]; rfl)⟩
  have c1v : CellOK g W (o + 1) := ⟨_, _, w1v, EE.of (by rw [k1v]; show (_ : va_E) = Sum.inl (_, _, Sum.inl (memW W (o + 1))); rw [show memW W (o + 1) = _ from m1v]; rfl)⟩
  have c2v : CellOK g W (o + 2) := ⟨_, _, w2v, EE.of (by rw [k2v]; show (_ : va_E) = Sum.inl (_, _, Sum.inl (memW W (o + 2))); rw [show memW W (o + 2) = _ from m2v]; rfl)⟩
  have c3v : CellOK g W (o + 3) := ⟨_, _, w3v, EE.of (by rw [k3v]; show (_ : va_E) = Sum.inl (_, _, Sum.inl (memW W (o + 3))); rw [show memW W (o + 3) = _ from m3v]; rfl)⟩
  have c4v : CellOK g W (o + 4) := ⟨_, _, w4v, EE.of (by rw [k4v]; show (_ : va_E) = Sum.inl (_, _, Sum.inl (memW W (o + 4))); rw [show memW W (o + 4) = _ from m4v]; rfl)⟩
  have c5v : CellOK g W (o + 5) := ⟨_, _, w5v, EE.of (by rw [k5v]; show (_ : va_E) = Sum.inl (_, _, Sum.inl (memW W (o + 5))); rw [show memW W (o + 5) = _ from m5v]; rfl)⟩
  have c6v : CellOK g W (o + 6) := ⟨_, _, w6v, EE.of (by rw [k6v]; show (_ : va_E) = Sum.inl (_, _, Sum.inl (memW W (o + 6))); rw [show memW W (o + 6) = _ from m6v]; rfl)⟩
  have c7v : CellOK g W (o + 7) := ⟨_, _, w7v, EE.of (by rw [k7v]; show (_ : va_E) = Sum.inl (_, _, Sum.inl (memW W (o + 7))); rw [show memW W (o + 7) = _ from m7v]; rfl)⟩
  have c8v : CellOK g W (o + 8) := ⟨_, _, w8v, EE.of (by rw [k8v]; show (_ : va_E) = Sum.inl (_, _, Sum.inl (memW W (o + 8))); rw [show memW W (o + 8) = _ from m8v]; rfl)⟩
  have c9v : CellOK g W (o + 9) := ⟨_, _, w9v, EE.of (by rw [k9v]; show (_ : va_E) = Sum.inl (_, _, Sum.inl (memW W (o + 9))); rw [show memW W (o + 9) = _ from m9v]; rfl)⟩
  refine ⟨a0v, fun i hi => ?_, ?_, ?_, ?_⟩
  · obtain rfl | rfl | rfl | rfl | rfl | rfl | rfl | rfl | rfl | rfl : i = 0 ∨ i = 1 ∨ i = 2 ∨ i = 3 ∨ i = 4 ∨ i = 5 ∨ i = 6 ∨ i = 7 ∨ i = 8 ∨ i = 9 := by omega
    · exact c0v
    · exact c1v
    · exact c2v
    · exact c3v
    · exact c4v
    · exact c5v
    · exact c6v
    · exact c7v
    · exact c8v
    · exact c9v
  · rw [show memW W (o + 1) = _ from m1v]; exact hm
  · intro j hj
    rw [show memW W o = _ from m0v]
    rcases hj with rfl | rfl | rfl | rfl | rfl <;> rfl
  · rw [show memW W o = _ from m0v]; rfl
