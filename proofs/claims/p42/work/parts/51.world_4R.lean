/-! ===== printed: cells ===== -/
set_option maxHeartbeats 4000000 in
theorem cells_R {g : GP} {W : va_W} {o b : Nat} {blk : va_W} (h : PX4 g b blk) (hA : AT W o blk) (ho : ∀ i, i < 38 → kt (o + i) = [8, 9, 20120, 10, 11, 12, 1, 1032, 1, 1032, 1, 1032, 1, 1032, 1, 1032, 1, 1032, 1, 1032, 1, 1032, 1, 1032, 1, 1032, 1, 1032, 1, 1032, 1, 1032, 1, 1032, 1, 1032, 1, 1032].getD i 0) (h21 : 21 < o ∨ o + 38 ≤ 21) : adrW W o = b ∧ (∀ i, i < 38 → CellOK g W (o + i)) ∧ memW W (o + 1) 1 = nI 0 := by
  obtain ⟨sb, sa, s1, s2, s3, ib, ia, im, f1, f2, f3, p, pa, pm, hf1, hf2, hf3, rfl⟩ := h
  have w0v := hA 0 (Nat.le_of_ble_eq_true rfl)
  have a0v : adrW W (o) = b := adr_of w0v
  have m0v := mem_of w0v (by omega)
  have k0v : kt (o) = 8 := ho 0 (by decide)
  have w1v := hA 1 (Nat.le_of_ble_eq_true rfl)
  have a1v : adrW W (o + 1) = sb := adr_of w1v
  have m1v := mem_of w1v (by omega)
  have k1v : kt (o + 1) = 9 := ho 1 (by decide)
  have w2v := hA 2 (Nat.le_of_ble_eq_true rfl)
  have a2v : adrW W (o + 2) = sa := adr_of w2v
  have m2v := mem_of w2v (by omega)
  have k2v : kt (o + 2) = 20120 := ho 2 (by decide)
  have w3v := hA 3 (Nat.le_of_ble_eq_true rfl)
  have a3v : adrW W (o + 3) = s1 := adr_of w3v
  have m3v := mem_of w3v (by omega)
  have k3v : kt (o + 3) = 10 := ho 3 (by decide)
  have w4v := hA 4 (Nat.le_of_ble_eq_true rfl)
  have a4v : adrW W (o + 4) = s2 := adr_of w4v
  have m4v := mem_of w4v (by omega)
  have k4v : kt (o + 4) = 11 := ho 4 (by decide)
  have w5v := hA 5 (Nat.le_of_ble_eq_true rfl)
  have a5v : adrW W (o + 5) = s3 := adr_of w5v
  have m5v := mem_of w5v (by omega)
  have k5v : kt (o + 5) = 12 := ho 5 (by decide)
  have w6v := hA 6 (Nat.le_of_ble_eq_true rfl)
  have a6v : adrW W (o + 6) = ib := adr_of w6v
  have m6v := mem_of w6v (by omega)
  have k6v : kt (o + 6) = 1 := ho 6 (by decide)
  have w7v := hA 7 (Nat.le_of_ble_eq_true rfl)
  have a7v : adrW W (o + 7) = ia := adr_of w7v
  have m7v := mem_of w7v (by omega)
  have k7v : kt (o + 7) = 1032 := ho 7 (by decide)
  have w8v := hA 8 (Nat.le_of_ble_eq_true rfl)
  have a8v : adrW W (o + 8) = p 0 := adr_of w8v
  have m8v := mem_of w8v (by omega)
  have k8v : kt (o + 8) = 1 := ho 8 (by decide)
  have w9v := hA 9 (Nat.le_of_ble_eq_true rfl)
  have a9v : adrW W (o + 9) = pa 0 := adr_of w9v
  have m9v := mem_of w9v (by omega)
  have k9v : kt (o + 9) = 1032 := ho 9 (by decide)
  have w10v := hA 10 (Nat.le_of_ble_eq_true rfl)
  have a10v : adrW W (o + 10) = p 1 := adr_of w10v
  have m10v := mem_of w10v (by omega)
  have k10v : kt (o + 10) = 1 := ho 10 (by decide)
  have w11v := hA 11 (Nat.le_of_ble_eq_true rfl)
  have a11v : adrW W (o + 11) = pa 1 := adr_of w11v
  have m11v := mem_of w11v (by omega)
  have k11v : kt (o + 11) = 1032 := ho 11 (by decide)
  have w12v := hA 12 (Nat.le_of_ble_eq_true rfl)
  have a12v : adrW W (o + 12) = p 2 := adr_of w12v
  have m12v := mem_of w12v (by omega)
  have k12v : kt (o + 12) = 1 := ho 12 (by decide)
  have w13v := hA 13 (Nat.le_of_ble_eq_true rfl)
  have a13v : adrW W (o + 13) = pa 2 := adr_of w13v
  have m13v := mem_of w13v (by omega)
  have k13v : kt (o + 13) = 1032 := ho 13 (by decide)
  have w14v := hA 14 (Nat.le_of_ble_eq_true rfl)
  have a14v : adrW W (o + 14) = p 3 := adr_of w14v
  have m14v := mem_of w14v (by omega)
  have k14v : kt (o + 14) = 1 := ho 14 (by decide)
  have w15v := hA 15 (Nat.le_of_ble_eq_true rfl)
  have a15v : adrW W (o + 15) = pa 3 := adr_of w15v
  have m15v := mem_of w15v (by omega)
  have k15v : kt (o + 15) = 1032 := ho 15 (by decide)
  have w16v := hA 16 (Nat.le_of_ble_eq_true rfl)
  have a16v : adrW W (o + 16) = p 4 := adr_of w16v
  have m16v := mem_of w16v (by omega)
  have k16v : kt (o + 16) = 1 := ho 16 (by decide)
  have w17v := hA 17 (Nat.le_of_ble_eq_true rfl)
  have a17v : adrW W (o + 17) = pa 4 := adr_of w17v
  have m17v := mem_of w17v (by omega)
  have k17v : kt (o + 17) = 1032 := ho 17 (by decide)
  have w18v := hA 18 (Nat.le_of_ble_eq_true rfl)
  have a18v : adrW W (o + 18) = p 5 := adr_of w18v
  have m18v := mem_of w18v (by omega)
  have k18v : kt (o + 18) = 1 := ho 18 (by decide)
  have w19v := hA 19 (Nat.le_of_ble_eq_true rfl)
  have a19v : adrW W (o + 19) = pa 5 := adr_of w19v
  have m19v := mem_of w19v (by omega)
  have k19v : kt (o + 19) = 1032 := ho 19 (by decide)
  have w20v := hA 20 (Nat.le_of_ble_eq_true rfl)
  have a20v : adrW W (o + 20) = p 6 := adr_of w20v
  have m20v := mem_of w20v (by omega)
  have k20v : kt (o + 20) = 1 := ho 20 (by decide)
  have w21v := hA 21 (Nat.le_of_ble_eq_true rfl)
  have a21v : adrW W (o + 21) = pa 6 := adr_of w21v
  have m21v := mem_of w21v (by omega)
  have k21v : kt (o + 21) = 1032 := ho 21 (by decide)
  have w22v := hA 22 (Nat.le_of_ble_eq_true rfl)
  have a22v : adrW W (o + 22) = p 7 := adr_of w22v
  have m22v := mem_of w22v (by omega)
  have k22v : kt (o + 22) = 1 := ho 22 (by decide)
  have w23v := hA 23 (Nat.le_of_ble_eq_true rfl)
  have a23v : adrW W (o + 23) = pa 7 := adr_of w23v
  have m23v := mem_of w23v (by omega)
  have k23v : kt (o + 23) = 1032 := ho 23 (by decide)
  have w24v := hA 24 (Nat.le_of_ble_eq_true rfl)
  have a24v : adrW W (o + 24) = p 8 := adr_of w24v
  have m24v := mem_of w24v (by omega)
  have k24v : kt (o + 24) = 1 := ho 24 (by decide)
  have w25v := hA 25 (Nat.le_of_ble_eq_true rfl)
  have a25v : adrW W (o + 25) = pa 8 := adr_of w25v
  have m25v := mem_of w25v (by omega)
  have k25v : kt (o + 25) = 1032 := ho 25 (by decide)
  have w26v := hA 26 (Nat.le_of_ble_eq_true rfl)
  have a26v : adrW W (o + 26) = p 9 := adr_of w26v
  have m26v := mem_of w26v (by omega)
  have k26v : kt (o + 26) = 1 := ho 26 (by decide)
  have w27v := hA 27 (Nat.le_of_ble_eq_true rfl)
  have a27v : adrW W (o + 27) = pa 9 := adr_of w27v
  have m27v := mem_of w27v (by omega)
  have k27v : kt (o + 27) = 1032 := ho 27 (by decide)
  have w28v := hA 28 (Nat.le_of_ble_eq_true rfl)
  have a28v : adrW W (o + 28) = p 10 := adr_of w28v
  have m28v := mem_of w28v (by omega)
  have k28v : kt (o + 28) = 1 := ho 28 (by decide)
  have w29v := hA 29 (Nat.le_of_ble_eq_true rfl)
  have a29v : adrW W (o + 29) = pa 10 := adr_of w29v
  have m29v := mem_of w29v (by omega)
  have k29v : kt (o + 29) = 1032 := ho 29 (by decide)
  have w30v := hA 30 (Nat.le_of_ble_eq_true rfl)
  have a30v : adrW W (o + 30) = p 11 := adr_of w30v
  have m30v := mem_of w30v (by omega)
  have k30v : kt (o + 30) = 1 := ho 30 (by decide)
  have w31v := hA 31 (Nat.le_of_ble_eq_true rfl)
  have a31v : adrW W (o + 31) = pa 11 := adr_of w31v
  have m31v := mem_of w31v (by omega)
  have k31v : kt (o + 31) = 1032 := ho 31 (by decide)
  have w32v := hA 32 (Nat.le_of_ble_eq_true rfl)
  have a32v : adrW W (o + 32) = p 12 := adr_of w32v
  have m32v := mem_of w32v (by omega)
  have k32v : kt (o + 32) = 1 := ho 32 (by decide)
  have w33v := hA 33 (Nat.le_of_ble_eq_true rfl)
  have a33v : adrW W (o + 33) = pa 12 := adr_of w33v
  have m33v := mem_of w33v (by omega)
  have k33v : kt (o + 33) = 1032 := ho 33 (by decide)
  have w34v := hA 34 (Nat.le_of_ble_eq_true rfl)
  have a34v : adrW W (o + 34) = p 13 := adr_of w34v
  have m34v := mem_of w34v (by omega)
  have k34v : kt (o + 34) = 1 := ho 34 (by decide)
  have w35v := hA 35 (Nat.le_of_ble_eq_true rfl)
  have a35v : adrW W (o + 35) = pa 13 := adr_of w35v
  have m35v := mem_of w35v (by omega)
  have k35v : kt (o + 35) = 1032 := ho 35 (by decide)
  have w36v := hA 36 (Nat.le_of_ble_eq_true rfl)
  have a36v : adrW W (o + 36) = p 14 := adr_of w36v
  have m36v := mem_of w36v (by omega)
  have k36v : kt (o + 36) = 1 := ho 36 (by decide)
  have w37v := hA 37 (Nat.le_of_ble_eq_true rfl)
  have a37v : adrW W (o + 37) = pa 14 := adr_of w37v
  have m37v := mem_of w37v (by omega)
  have k37v : kt (o + 37) = 1032 := ho 37 (by decide)
  have c0v : CellOK g W (o) := ⟨_, _, w0v, EE.of (by rw [k0v]; show (_ : va_E) = Sum.inr (4, ([.ref (adrW W (o + 1)), .int (memW W (o) 1), .ref (adrW W (o + 3)), .ref (adrW W (o + 4)), .ref (adrW W (o + 5)), .ref (adrW W (o + 6))] : List Value)); rw [a1v, a3v, a4v, a5v, a6v, show memW W (o) = _ from m0v]; rfl)⟩
  have c1v : CellOK g W (o + 1) := ⟨_, _, w1v, EE.of (by rw [k1v]; show (_ : va_E) = Sum.inr (5, ([.ref (adrW W (o + 2)), .int (memW W (o + 1) 1)] : List Value)); rw [a2v, show memW W (o + 1) = _ from m1v]; rfl)⟩
  have c2v : CellOK g W (o + 2) := ⟨_, _, w2v, EE.of (by rw [k2v]; show (_ : va_E) = Sum.inl (_, _, Sum.inl (memW W (o + 2))); rw [show memW W (o + 2) = _ from m2v]; rfl)⟩
  have c3v : CellOK g W (o + 3) := ⟨_, _, w3v, by rw [k3v]; exact EE.arr (five (by show f1 0 = some (adrW W (o + 8)); rw [hf1 0 (by decide), a8v]) (by show f1 1 = some (adrW W (o + 14)); rw [hf1 1 (by decide), a14v]) (by show f1 2 = some (adrW W (o + 20)); rw [hf1 2 (by decide), a20v]) (by show f1 3 = some (adrW W (o + 26)); rw [hf1 3 (by decide), a26v]) (by show f1 4 = some (adrW W (o + 32)); rw [hf1 4 (by decide), a32v]))⟩
  have c4v : CellOK g W (o + 4) := ⟨_, _, w4v, by rw [k4v]; exact EE.arr (five (by show f2 0 = some (adrW W (o + 10)); rw [hf2 0 (by decide), a10v]) (by show f2 1 = some (adrW W (o + 16)); rw [hf2 1 (by decide), a16v]) (by show f2 2 = some (adrW W (o + 22)); rw [hf2 2 (by decide), a22v]) (by show f2 3 = some (adrW W (o + 28)); rw [hf2 3 (by decide), a28v]) (by show f2 4 = some (adrW W (o + 34)); rw [hf2 4 (by decide), a34v]))⟩
  have c5v : CellOK g W (o + 5) := ⟨_, _, w5v, by rw [k5v]; exact EE.arr (five (by show f3 0 = some (adrW W (o + 12)); rw [hf3 0 (by decide), a12v]) (by show f3 1 = some (adrW W (o + 18)); rw [hf3 1 (by decide), a18v]) (by show f3 2 = some (adrW W (o + 24)); rw [hf3 2 (by decide), a24v]) (by show f3 3 = some (adrW W (o + 30)); rw [hf3 3 (by decide), a30v]) (by show f3 4 = some (adrW W (o + 36)); rw [hf3 4 (by decide), a36v]))⟩
  have c6v : CellOK g W (o + 6) := ⟨_, _, w6v, EE.of (by rw [k6v]; show (_ : va_E) = Sum.inr (3, ([.ref (adrW W (o + 7))] : List Value)); rw [a7v])⟩
  have c7v : CellOK g W (o + 7) := ⟨_, _, w7v, EE.of (by rw [k7v]; show (_ : va_E) = Sum.inl (_, _, Sum.inl (memW W (o + 7))); rw [show memW W (o + 7) = _ from m7v]; rfl)⟩
  have c8v : CellOK g W (o + 8) := ⟨_, _, w8v, EE.of (by rw [k8v]; show (_ : va_E) = Sum.inr (3, ([.ref (adrW W (o + 9))] : List Value)); rw [a9v])⟩
  have c9v : CellOK g W (o + 9) := ⟨_, _, w9v, EE.of (by rw [k9v]; show (_ : va_E) = Sum.inl (_, _, Sum.inl (memW W (o + 9))); rw [show memW W (o + 9) = _ from m9v]; rfl)⟩
  have c10v : CellOK g W (o + 10) := ⟨_, _, w10v, EE.of (by rw [k10v]; show (_ : va_E) = Sum.inr (3, ([.ref (adrW W (o + 11))] : List Value)); rw [a11v])⟩
  have c11v : CellOK g W (o + 11) := ⟨_, _, w11v, EE.of (by rw [k11v]; show (_ : va_E) = Sum.inl (_, _, Sum.inl (memW W (o + 11))); rw [show memW W (o + 11) = _ from m11v]; rfl)⟩
  have c12v : CellOK g W (o + 12) := ⟨_, _, w12v, EE.of (by rw [k12v]; show (_ : va_E) = Sum.inr (3, ([.ref (adrW W (o + 13))] : List Value)); rw [a13v])⟩
  have c13v : CellOK g W (o + 13) := ⟨_, _, w13v, EE.of (by rw [k13v]; show (_ : va_E) = Sum.inl (_, _, Sum.inl (memW W (o + 13))); rw [show memW W (o + 13) = _ from m13v]; rfl)⟩
  have c14v : CellOK g W (o + 14) := ⟨_, _, w14v, EE.of (by rw [k14v]; show (_ : va_E) = Sum.inr (3, ([.ref (adrW W (o + 15))] : List Value)); rw [a15v])⟩
  have c15v : CellOK g W (o + 15) := ⟨_, _, w15v, EE.of (by rw [k15v]; show (_ : va_E) = Sum.inl (_, _, Sum.inl (memW W (o + 15))); rw [show memW W (o + 15) = _ from m15v]; rfl)⟩
  have c16v : CellOK g W (o + 16) := ⟨_, _, w16v, EE.of (by rw [k16v]; show (_ : va_E) = Sum.inr (3, ([.ref (adrW W (o + 17))] : List Value)); rw [a17v])⟩
  have c17v : CellOK g W (o + 17) := ⟨_, _, w17v, EE.of (by rw [k17v]; show (_ : va_E) = Sum.inl (_, _, Sum.inl (memW W (o + 17))); rw [show memW W (o + 17) = _ from m17v]; rfl)⟩
  have c18v : CellOK g W (o + 18) := ⟨_, _, w18v, EE.of (by rw [k18v]; show (_ : va_E) = Sum.inr (3, ([.ref (adrW W (o + 19))] : List Value)); rw [a19v])⟩
  have c19v : CellOK g W (o + 19) := ⟨_, _, w19v, EE.of (by rw [k19v]; show (_ : va_E) = Sum.inl (_, _, Sum.inl (memW W (o + 19))); rw [show memW W (o + 19) = _ from m19v]; rfl)⟩
  have c20v : CellOK g W (o + 20) := ⟨_, _, w20v, EE.of (by rw [k20v]; show (_ : va_E) = Sum.inr (3, ([.ref (adrW W (o + 21))] : List Value)); rw [a21v])⟩
  have c21v : CellOK g W (o + 21) := ⟨_, _, w21v, EE.of (by rw [k21v]; show (_ : va_E) = Sum.inl (_, _, Sum.inl (memW W (o + 21))); rw [show memW W (o + 21) = _ from m21v]; rfl)⟩
  have c22v : CellOK g W (o + 22) := ⟨_, _, w22v, EE.of (by rw [k22v]; show (_ : va_E) = Sum.inr (3, ([.ref (adrW W (o + 23))] : List Value)); rw [a23v])⟩
  have c23v : CellOK g W (o + 23) := ⟨_, _, w23v, EE.of (by rw [k23v]; show (_ : va_E) = Sum.inl (_, _, Sum.inl (memW W (o + 23))); rw [show memW W (o + 23) = _ from m23v]; rfl)⟩
  have c24v : CellOK g W (o + 24) := ⟨_, _, w24v, EE.of (by rw [k24v]; show (_ : va_E) = Sum.inr (3, ([.ref (adrW W (o + 25))] : List Value)); rw [a25v])⟩
  have c25v : CellOK g W (o + 25) := ⟨_, _, w25v, EE.of (by rw [k25v]; show (_ : va_E) = Sum.inl (_, _, Sum.inl (memW W (o + 25))); rw [show memW W (o + 25) = _ from m25v]; rfl)⟩
  have c26v : CellOK g W (o + 26) := ⟨_, _, w26v, EE.of (by rw [k26v]; show (_ : va_E) = Sum.inr (3, ([.ref (adrW W (o + 27))] : List Value)); rw [a27v])⟩
  have c27v : CellOK g W (o + 27) := ⟨_, _, w27v, EE.of (by rw [k27v]; show (_ : va_E) = Sum.inl (_, _, Sum.inl (memW W (o + 27))); rw [show memW W (o + 27) = _ from m27v]; rfl)⟩
  have c28v : CellOK g W (o + 28) := ⟨_, _, w28v, EE.of (by rw [k28v]; show (_ : va_E) = Sum.inr (3, ([.ref (adrW W (o + 29))] : List Value)); rw [a29v])⟩
  have c29v : CellOK g W (o + 29) := ⟨_, _, w29v, EE.of (by rw [k29v]; show (_ : va_E) = Sum.inl (_, _, Sum.inl (memW W (o + 29))); rw [show memW W (o + 29) = _ from m29v]; rfl)⟩
  have c30v : CellOK g W (o + 30) := ⟨_, _, w30v, EE.of (by rw [k30v]; show (_ : va_E) = Sum.inr (3, ([.ref (adrW W (o + 31))] : List Value)); rw [a31v])⟩
  have c31v : CellOK g W (o + 31) := ⟨_, _, w31v, EE.of (by rw [k31v]; show (_ : va_E) = Sum.inl (_, _, Sum.inl (memW W (o + 31))); rw [show memW W (o + 31) = _ from m31v]; rfl)⟩
  have c32v : CellOK g W (o + 32) := ⟨_, _, w32v, EE.of (by rw [k32v]; show (_ : va_E) = Sum.inr (3, ([.ref (adrW W (o + 33))] : List Value)); rw [a33v])⟩
  have c33v : CellOK g W (o + 33) := ⟨_, _, w33v, EE.of (by rw [k33v]; show (_ : va_E) = Sum.inl (_, _, Sum.inl (memW W (o + 33))); rw [show memW W (o + 33) = _ from m33v]; rfl)⟩
  have c34v : CellOK g W (o + 34) := ⟨_, _, w34v, EE.of (by rw [k34v]; show (_ : va_E) = Sum.inr (3, ([.ref (adrW W (o + 35))] : List Value)); rw [a35v])⟩
  have c35v : CellOK g W (o + 35) := ⟨_, _, w35v, EE.of (by rw [k35v]; show (_ : va_E) = Sum.inl (_, _, Sum.inl (memW W (o + 35))); rw [show memW W (o + 35) = _ from m35v]; rfl)⟩
  have c36v : CellOK g W (o + 36) := ⟨_, _, w36v, EE.of (by rw [k36v]; show (_ : va_E) = Sum.inr (3, ([.ref (adrW W (o + 37))] : List Value)); rw [a37v])⟩
  have c37v : CellOK g W (o + 37) := ⟨_, _, w37v, EE.of (by rw [k37v]; show (_ : va_E) = Sum.inl (_, _, Sum.inl (memW W (o + 37))); rw [show memW W (o + 37) = _ from m37v]; rfl)⟩
  refine ⟨a0v, fun i hi => ?_, ?_⟩
  · obtain rfl | rfl | rfl | rfl | rfl | rfl | rfl | rfl | rfl | rfl | rfl | rfl | rfl | rfl | rfl | rfl | rfl | rfl | rfl | rfl | rfl | rfl | rfl | rfl | rfl | rfl | rfl | rfl | rfl | rfl | rfl | rfl | rfl | rfl | rfl | rfl | rfl | rfl : i = 0 ∨ i = 1 ∨ i = 2 ∨ i = 3 ∨ i = 4 ∨ i = 5 ∨ i = 6 ∨ i = 7 ∨ i = 8 ∨ i = 9 ∨ i = 10 ∨ i = 11 ∨ i = 12 ∨ i = 13 ∨ i = 14 ∨ i = 15 ∨ i = 16 ∨ i = 17 ∨ i = 18 ∨ i = 19 ∨ i = 20 ∨ i = 21 ∨ i = 22 ∨ i = 23 ∨ i = 24 ∨ i = 25 ∨ i = 26 ∨ i = 27 ∨ i = 28 ∨ i = 29 ∨ i = 30 ∨ i = 31 ∨ i = 32 ∨ i = 33 ∨ i = 34 ∨ i = 35 ∨ i = 36 ∨ i = 37 := by omega
    · exact c0v
    · exact c1v
    · exact c2v
    · exact c3v
    · exact c4v
    · exact c5v
    · exact c6v
    · exact c7v
    · exact c8v
    · exact c9v
    · exact c10v
    · exact c11v
    · exact c12v
    · exact c13v
    · exact c14v
    · exact c15v
    · exact c16v
    · exact c17v
    · exact c18v
    · exact c19v
    · exact c20v
    · exact c21v
    · exact c22v
    · exact c23v
    · exact c24v
    · exact c25v
    · exact c26v
    · exact c27v
    · exact c28v
    · exact c29v
    · exact c30v
    · exact c31v
    · exact c32v
    · exact c33v
    · exact c34v
    · exact c35v
    · exact c36v
    · exact c37v
  · rw [show memW W (o + 1) = _ from m1v]; rfl
