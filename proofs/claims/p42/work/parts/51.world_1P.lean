/-! ===== printed: cells ===== -/
set_option maxHeartbeats 4000000 in
theorem cells_P {g : GP} {W : va_W} {o b : Nat} {blk : va_W} (h : PX3 g b blk) (hA : AT W o blk) (ho : ∀ i, i < 2 → kt (o + i) = [1, 1032].getD i 0) (h21 : 21 < o ∨ o + 2 ≤ 21) : adrW W o = b ∧ (∀ i, i < 2 → CellOK g W (o + i)) := by
  obtain ⟨a, m, hm, rfl⟩ := h
  have w0v := hA 0 (Nat.le_of_ble_eq_true rfl)
  have a0v : adrW W (o) = b := adr_of w0v
  have m0v := mem_of w0v (by omega)
  have k0v : kt (o) = 1 := ho 0 (by decide)
  have w1v := hA 1 (Nat.le_of_ble_eq_true rfl)
  have a1v : adrW W (o + 1) = a := adr_of w1v
  have m1v := mem_of w1v (by omega)
  have k1v : kt (o + 1) = 1032 := ho 1 (by decide)
  have c0v : CellOK g W (o) := ⟨_, _, w0v, EE.of (by rw [k0v]; show (_ : va_E) = Sum.inr (3, ([.ref (adrW W (o + 1))] : List Value)); rw [a1v])⟩
  have c1v : CellOK g W (o + 1) := ⟨_, _, w1v, EE.of (by rw [k1v]; show (_ : va_E) = Sum.inl (_, _, Sum.inl (memW W (o + 1))); rw [show memW W (o + 1) = _ from m1v]; rfl)⟩
  refine ⟨a0v, fun i hi => ?_⟩
  · obtain rfl | rfl : i = 0 ∨ i = 1 := by omega
    · exact c0v
    · exact c1v
