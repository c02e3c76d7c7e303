/-! ===== printed: cells ===== -/
set_option maxHeartbeats 4000000 in
theorem cells_S {g : GP} {W : va_W} {o b : Nat} {blk : va_W} (h : PX6 g b blk) (hA : AT W o blk) (ho : ∀ i, i < 19 → kt (o + i) = [5, 2, 1032, 1032, 1032, 3, 1120, 4, 30005, 1, 1032, 1, 1032, 1, 1032, 1, 1032, 1, 1032].getD i 0) (h21 : 21 < o ∨ o + 19 ≤ 21) : adrW W o = b ∧ (∀ i, i < 19 → CellOK g W (o + i)) ∧ CS (memW W) o σ0 := by
  obtain ⟨bb, a1, a2, a3, lb, la, ar, fl, p, pa, m1, m2, m3, pm, f, hm1, hm2, hm3, hpm, hf, rfl⟩ := h
  have w0v := hA 0 (Nat.le_of_ble_eq_true rfl)
  have a0v : adrW W (o) = b := adr_of w0v
  have m0v := mem_of w0v (by omega)
  have k0v : kt (o) = 5 := ho 0 (by decide)
  have w1v := hA 1 (Nat.le_of_ble_eq_true rfl)
  have a1v : adrW W (o + 1) = bb := adr_of w1v
  have m1v := mem_of w1v (by omega)
  have k1v : kt (o + 1) = 2 := ho 1 (by decide)
  have w2v := hA 2 (Nat.le_of_ble_eq_true rfl)
  have a2v : adrW W (o + 2) = a1 := adr_of w2v
  have m2v := mem_of w2v (by omega)
  have k2v : kt (o + 2) = 1032 := ho 2 (by decide)
  have w3v := hA 3 (Nat.le_of_ble_eq_true rfl)
  have a3v : adrW W (o + 3) = a2 := adr_of w3v
  have m3v := mem_of w3v (by omega)
  have k3v : kt (o + 3) = 1032 := ho 3 (by decide)
  have w4v := hA 4 (Nat.le_of_ble_eq_true rfl)
  have a4v : adrW W (o + 4) = a3 := adr_of w4v
  have m4v := mem_of w4v (by omega)
  have k4v : kt (o + 4) = 1032 := ho 4 (by decide)
  have w5v := hA 5 (Nat.le_of_ble_eq_true rfl)
  have a5v : adrW W (o + 5) = lb := adr_of w5v
  have m5v := mem_of w5v (by omega)
  have k5v : kt (o + 5) = 3 := ho 5 (by decide)
  have w6v := hA 6 (Nat.le_of_ble_eq_true rfl)
  have a6v : adrW W (o + 6) = la := adr_of w6v
  have m6v := mem_of w6v (by omega)
  have k6v : kt (o + 6) = 1120 := ho 6 (by decide)
  have w7v := hA 7 (Nat.le_of_ble_eq_true rfl)
  have a7v : adrW W (o + 7) = ar := adr_of w7v
  have m7v := mem_of w7v (by omega)
  have k7v : kt (o + 7) = 4 := ho 7 (by decide)
  have w8v := hA 8 (Nat.le_of_ble_eq_true rfl)
  have a8v : adrW W (o + 8) = fl := adr_of w8v
  have m8v := mem_of w8v (by omega)
  have k8v : kt (o + 8) = 30005 := ho 8 (by decide)
  have w9v := hA 9 (Nat.le_of_ble_eq_true rfl)
  have a9v : adrW W (o + 9) = p 0 := adr_of w9v
  have m9v := mem_of w9v (by omega)
  have k9v : kt (o + 9) = 1 := ho 9 (by decide)
  have w10v := hA 10 (Nat.le_of_ble_eq_true rfl)
  have a10v : adrW W (o + 10) = pa 0 := adr_of w10v
  have m10v := mem_of w10v (by omega)
  have k10v : kt (o + 10) = 1032 := ho 10 (by decide)
  have w11v := hA 11 (Nat.le_of_ble_eq_true rfl)
  have a11v : adrW W (o + 11) = p 1 := adr_of w11v
  have m11v := mem_of w11v (by omega)
  have k11v : kt (o + 11) = 1 := ho 11 (by decide)
  have w12v := hA 12 (Nat.le_of_ble_eq_true rfl)
  have a12v : adrW W (o + 12) = pa 1 := adr_of w12v
  have m12v := mem_of w12v (by omega)
  have k12v : kt (o + 12) = 1032 := ho 12 (by decide)
  have w13v := hA 13 (Nat.le_of_ble_eq_true rfl)
  have a13v : adrW W (o + 13) = p 2 := adr_of w13v
  have m13v := mem_of w13v (by omega)
  have k13v : kt (o + 13) = 1 := ho 13 (by decide)
  have w14v := hA 14 (Nat.le_of_ble_eq_true rfl)
  have a14v : adrW W (o + 14) = pa 2 := adr_of w14v
  have m14v := mem_of w14v (by omega)
  have k14v : kt (o + 14) = 1032 := ho 14 (by decide)
  have w15v := hA 15 (Nat.le_of_ble_eq_true rfl)
  have a15v : adrW W (o + 15) = p 3 := adr_of w15v
  have m15v := mem_of w15v (by omega)
  have k15v : kt (o + 15) = 1 := ho 15 (by decide)
  have w16v := hA 16 (Nat.le_of_ble_eq_true rfl)
  have a16v : adrW W (o + 16) = pa 3 := adr_of w16v
  have m16v := mem_of w16v (by omega)
  have k16v : kt (o + 16) = 1032 := ho 16 (by decide)
  have w17v := hA 17 (Nat.le_of_ble_eq_true rfl)
  have a17v : adrW W (o + 17) = p 4 := adr_of w17v
  have m17v := mem_of w17v (by omega)
  have k17v : kt (o + 17) = 1 := ho 17 (by decide)
  have w18v := hA 18 (Nat.le_of_ble_eq_true rfl)
  have a18v : adrW W (o + 18) = pa 4 := adr_of w18v
  have m18v := mem_of w18v (by omega)
  have k18v : kt (o + 18) = 1032 := ho 18 (by decide)
  have c0v : CellOK g W (o) := ⟨_, _, w0v, EE.of (by rw [k0v]; show (_ : va_E) = Sum.inr (6, ([.ref (adrW W (o + 1)), .ref (adrW W (o + 5)), .int (memW W (o) 2), .int (memW W (o) 3), .ref (adrW W (o + 7)), .ref (adrW W (o + 8))] : List Value)); rw [a1v, a5v, a7v, a8v, show memW W (o) = _ from m0v]; rfl)⟩
  have c1v : CellOK g W (o + 1) := ⟨_, _, w1v, EE.of (by rw [k1v]; show (_ : va_E) = Sum.inr (0, ([.ref (adrW W (o + 2)), .ref (adrW W (o + 3)), .ref (adrW W (o + 4))] : List Value)); rw [a2v, a3v, a4v])⟩
  have c2v : CellOK g W (o + 2) := ⟨_, _, w2v, EE.of (by rw [k2v]; show (_ : va_E) = Sum.inl (_, _, Sum.inl (memW W (o + 2))); rw [show memW W (o + 2) = _ from m2v]; rfl)⟩
  have c3v : CellOK g W (o + 3) := ⟨_, _, w3v, EE.of (by rw [k3v]; show (_ : va_E) = Sum.inl (_, _, Sum.inl (memW W (o + 3))); rw [show memW W (o + 3) = _ from m3v]; rfl)⟩
  have c4v : CellOK g W (o + 4) := ⟨_, _, w4v, EE.of (by rw [k4v]; show (_ : va_E) = Sum.inl (_, _, Sum.inl (memW W (o + 4))); rw [show memW W (o + 4) = _ from m4v]; rfl)⟩
  have c5v : CellOK g W (o + 5) := ⟨_, _, w5v, EE.of (by rw [k5v]; show (_ : va_E) = Sum.inr (1, ([.ref (adrW W (o + 6)), .int (memW W (o + 5) 1)] : List Value)); rw [a6v, show memW W (o + 5) = _ from m5v]; rfl)⟩
  have c6v : CellOK g W (o + 6) := ⟨_, _, w6v, EE.of (by rw [k6v]; show (_ : va_E) = Sum.inl (_, _, Sum.inl (memW W (o + 6))); rw [show memW W (o + 6) = _ from m6v]; rfl)⟩
  have c7v : CellOK g W (o + 7) := ⟨_, _, w7v, by rw [k7v]; exact EE.arr (five (by show f 0 = some (adrW W (o + 9)); rw [hf 0 (by decide), a9v]) (by show f 1 = some (adrW W (o + 11)); rw [hf 1 (by decide), a11v]) (by show f 2 = some (adrW W (o + 13)); rw [hf 2 (by decide), a13v]) (by show f 3 = some (adrW W (o + 15)); rw [hf 3 (by decide), a15v]) (by show f 4 = some (adrW W (o + 17)); rw [hf 4 (by decide), a17v]))⟩
  have c8v : CellOK g W (o + 8) := ⟨_, _, w8v, EE.of (by rw [k8v]; show (_ : va_E) = Sum.inl (_, _, Sum.inl (memW W (o + 8))); rw [show memW W (o + 8) = _ from m8v]; rfl)⟩
  have c9v : CellOK g W (o + 9) := ⟨_, _, w9v, EE.of (by rw [k9v]; show (_ : va_E) = Sum.inr (3, ([.ref (adrW W (o + 10))] : List Value)); rw [a10v])⟩
  have c10v : CellOK g W (o + 10) := ⟨_, _, w10v, EE.of (by rw [k10v]; show (_ : va_E) = Sum.inl (_, _, Sum.inl (memW W (o + 10))); rw [show memW W (o + 10) = _ from m10v]; rfl)⟩
  have c11v : CellOK g W (o + 11) := ⟨_, _, w11v, EE.of (by rw [k11v]; show (_ : va_E) = Sum.inr (3, ([.ref (adrW W (o + 12))] : List Value)); rw [a12v])⟩
  have c12v : CellOK g W (o + 12) := ⟨_, _, w12v, EE.of (by rw [k12v]; show (_ : va_E) = Sum.inl (_, _, Sum.inl (memW W (o + 12))); rw [show memW W (o + 12) = _ from m12v]; rfl)⟩
  have c13v : CellOK g W (o + 13) := ⟨_, _, w13v, EE.of (by rw [k13v]; show (_ : va_E) = Sum.inr (3, ([.ref (adrW W (o + 14))] : List Value)); rw [a14v])⟩
  have c14v : CellOK g W (o + 14) := ⟨_, _, w14v, EE.of (by rw [k14v]; show (_ : va_E) = Sum.inl (_, _, Sum.inl (memW W (o + 14))); rw [show memW W (o + 14) = _ from m14v]; rfl)⟩
  have c15v : CellOK g W (o + 15) := ⟨_, _, w15v, EE.of (by rw [k15v]; show (_ : va_E) = Sum.inr (3, ([.ref (adrW W (o + 16))] : List Value)); rw [a16v])⟩
  have c16v : CellOK g W (o + 16) := ⟨_, _, w16v, EE.of (by rw [k16v]; show (_ : va_E) = Sum.inl (_, _, Sum.inl (memW W (o + 16))); rw [show memW W (o + 16) = _ from m16v]; rfl)⟩
  have c17v : CellOK g W (o + 17) := ⟨_, _, w17v, EE.of (by rw [k17v]; show (_ : va_E) = Sum.inr (3, ([.ref (adrW W (o + 18))] : List Value)); rw [a18v])⟩
  have c18v : CellOK g W (o + 18) := ⟨_, _, w18v, EE.of (by rw [k18v]; show (_ : va_E) = Sum.inl (_, _, Sum.inl (memW W (o + 18))); rw [show memW W (o + 18) = _ from m18v]; rfl)⟩
  refine ⟨a0v, fun i hi => ?_, ?_⟩
  · obtain rfl | rfl | rfl | rfl | rfl | rfl | rfl | rfl | rfl | rfl | rfl | rfl | rfl | rfl | rfl | rfl | rfl | rfl | rfl : i = 0 ∨ i = 1 ∨ i = 2 ∨ i = 3 ∨ i = 4 ∨ i = 5 ∨ i = 6 ∨ i = 7 ∨ i = 8 ∨ i = 9 ∨ i = 10 ∨ i = 11 ∨ i = 12 ∨ i = 13 ∨ i = 14 ∨ i = 15 ∨ i = 16 ∨ i = 17 ∨ i = 18 := by omega
    · exact c0v
    · exact c1v
    · exact c2v
    · exact c3v
    · exact c4v
    · exact c5v
    · exact c6v
    · exact c7v
    · exact c8v
    · exact c9v
    · exact c10v
    · exact c11v
    · exact c12v
    · exact c13v
    · exact c14v
    · exact c15v
    · exact c16v
    · exact c17v
    · exact c18v
  · refine ⟨fun k hk => ⟨?_, hk⟩, fun k hk => ⟨?_, ?_⟩, fun k hk => ⟨?_, ?_⟩, ?_, fun k hk => absurd hk (Nat.not_lt_zero k), ?_, ?_, fun i hi => ?_, (fun i _ h => by cases h), vs0⟩
    · rw [show memW W (o + 2) = _ from m2v]; exact hm1 k hk
    · rw [show memW W (o + 3) = _ from m3v]; show m2 k = nI (pinv (fun k => k) k); rw [pinv0 hk]; exact hm2 k hk
    · show pinv (fun k => k) k < 32; rw [pinv0 hk]; exact hk
    · rw [show memW W (o + 4) = _ from m4v]; exact hm3 k hk
    · show k / 8 < 6; omega
    · rw [show memW W (o + 5) = _ from m5v]; rfl
    · rw [show memW W o = _ from m0v]; rfl
    · rw [show memW W o = _ from m0v]; rfl
    · rw [show memW W (o + 8) = _ from m8v]; show (0 : Int32) = if false = true then nI 1 else nI 0; decide
