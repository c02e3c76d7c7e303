/-! ===== printed: loads and stores of locals by their shape; constants ===== -/
section PT
variable {g : GP} {M : MI} {R : Room} {Q : QT} {k n pc : Nat} {w : va_W} {st : List Value} {t : List (Option Value)}
theorem J.il0 {v : Int32} (d : decode M.2.1 pc = .ok (.iload_n 0, 1)) (K : J g M R Q k n w (pc + 1) (some (.int v) :: t) (.int v :: st)) : J g M R Q k n w pc (some (.int v) :: t) st := J.iload_n (i := 0) d rfl K
theorem J.is0 {y : Option Value} {v : Int32} (d : decode M.2.1 pc = .ok (.istore_n 0, 1)) (hn : 0 < M.2.2.1) (K : J g M R Q k n w (pc + 1) (some (.int v) :: t) st) : J g M R Q k n w pc (y :: t) (.int v :: st) := J.istore_n (i := 0) d hn (Or.inl rfl) rfl K
theorem J.al0 {v : Nat} (d : decode M.2.1 pc = .ok (.aload_n 0, 1)) (K : J g M R Q k n w (pc + 1) (some (.ref v) :: t) (.ref v :: st)) : J g M R Q k n w pc (some (.ref v) :: t) st := J.aload_n (i := 0) d rfl K
theorem J.as0 {y : Option Value} {v : Nat} (d : decode M.2.1 pc = .ok (.astore_n 0, 1)) (hn : 0 < M.2.2.1) (K : J g M R Q k n w (pc + 1) (some (.ref v) :: t) st) : J g M R Q k n w pc (y :: t) (.ref v :: st) := J.astore_n (i := 0) d hn (Or.inl rfl) rfl K
theorem J.ii0 {z a : Nat} {zi : Int} (d : decode M.2.1 pc = .ok (.iinc 0 zi, 3)) (hz : Int32.ofInt zi = nI z) (hn : 0 < M.2.2.1) (K : J g M R Q k n w (pc + 3) (some (.int (nI (a + z))) :: t) st) : J g M R Q k n w pc (some (.int (nI a)) :: t) st := J.iincN (i := 0) d hz rfl hn (Or.inl rfl) rfl K
theorem J.il1 {x0 : Option Value} {v : Int32} (d : decode M.2.1 pc = .ok (.iload_n 1, 1)) (K : J g M R Q k n w (pc + 1) (x0 :: some (.int v) :: t) (.int v :: st)) : J g M R Q k n w pc (x0 :: some (.int v) :: t) st := J.iload_n (i := 1) d rfl K
theorem J.is1 {x0 : Option Value} {y : Option Value} {v : Int32} (d : decode M.2.1 pc = .ok (.istore_n 1, 1)) (hn : 1 < M.2.2.1) (hc : cat1 (some x0) = true) (K : J g M R Q k n w (pc + 1) (x0 :: some (.int v) :: t) st) : J g M R Q k n w pc (x0 :: y :: t) (.int v :: st) := J.istore_n (i := 1) d hn (Or.inr hc) rfl K
theorem J.al1 {x0 : Option Value} {v : Nat} (d : decode M.2.1 pc = .ok (.aload_n 1, 1)) (K : J g M R Q k n w (pc + 1) (x0 :: some (.ref v) :: t) (.ref v :: st)) : J g M R Q k n w pc (x0 :: some (.ref v) :: t) st := J.aload_n (i := 1) d rfl K
theorem J.as1 {x0 : Option Value} {y : Option Value} {v : Nat} (d : decode M.2.1 pc = .ok (.astore_n 1, 1)) (hn : 1 < M.2.2.1) (hc : cat1 (some x0) = true) (K : J g M R Q k n w (pc + 1) (x0 :: some (.ref v) :: t) st) : J g M R Q k n w pc (x0 :: y :: t) (.ref v :: st) := J.astore_n (i := 1) d hn (Or.inr hc) rfl K
theorem J.ii1 {x0 : Option Value} {z a : Nat} {zi : Int} (d : decode M.2.1 pc = .ok (.iinc 1 zi, 3)) (hz : Int32.ofInt zi = nI z) (hn : 1 < M.2.2.1) (hc : cat1 (some x0) = true) (K : J g M R Q k n w (pc + 3) (x0 :: some (.int (nI (a + z))) :: t) st) : J g M R Q k n w pc (x0 :: some (.int (nI a)) :: t) st := J.iincN (i := 1) d hz rfl hn (Or.inr hc) rfl K
theorem J.il2 {x0 x1 : Option Value} {v : Int32} (d : decode M.2.1 pc = .ok (.iload_n 2, 1)) (K : J g M R Q k n w (pc + 1) (x0 :: x1 :: some (.int v) :: t) (.int v :: st)) : J g M R Q k n w pc (x0 :: x1 :: some (.int v) :: t) st := J.iload_n (i := 2) d rfl K
theorem J.is2 {x0 x1 : Option Value} {y : Option Value} {v : Int32} (d : decode M.2.1 pc = .ok (.istore_n 2, 1)) (hn : 2 < M.2.2.1) (hc : cat1 (some x1) = true) (K : J g M R Q k n w (pc + 1) (x0 :: x1 :: some (.int v) :: t) st) : J g M R Q k n w pc (x0 :: x1 :: y :: t) (.int v :: st) := J.istore_n (i := 2) d hn (Or.inr hc) rfl K
theorem J.al2 {x0 x1 : Option Value} {v : Nat} (d : decode M.2.1 pc = .ok (.aload_n 2, 1)) (K : J g M R Q k n w (pc + 1) (x0 :: x1 :: some (.ref v) :: t) (.ref v :: st)) : J g M R Q k n w pc (x0 :: x1 :: some (.ref v) :: t) st := J.aload_n (i := 2) d rfl K
theorem J.as2 {x0 x1 : Option Value} {y : Option Value} {v : Nat} (d : decode M.2.1 pc = .ok (.astore_n 2, 1)) (hn : 2 < M.2.2.1) (hc : cat1 (some x1) = true) (K : J g M R Q k n w (pc + 1) (x0 :: x1 :: some (.ref v) :: t) st) : J g M R Q k n w pc (x0 :: x1 :: y :: t) (.ref v :: st) := J.astore_n (i := 2) d hn (Or.inr hc) rfl K
theorem J.ii2 {x0 x1 : Option Value} {z a : Nat} {zi : Int} (d : decode M.2.1 pc = .ok (.iinc 2 zi, 3)) (hz : Int32.ofInt zi = nI z) (hn : 2 < M.2.2.1) (hc : cat1 (some x1) = true) (K : J g M R Q k n w (pc + 3) (x0 :: x1 :: some (.int (nI (a + z))) :: t) st) : J g M R Q k n w pc (x0 :: x1 :: some (.int (nI a)) :: t) st := J.iincN (i := 2) d hz rfl hn (Or.inr hc) rfl K
theorem J.il3 {x0 x1 x2 : Option Value} {v : Int32} (d : decode M.2.1 pc = .ok (.iload_n 3, 1)) (K : J g M R Q k n w (pc + 1) (x0 :: x1 :: x2 :: some (.int v) :: t) (.int v :: st)) : J g M R Q k n w pc (x0 :: x1 :: x2 :: some (.int v) :: t) st := J.iload_n (i := 3) d rfl K
theorem J.is3 {x0 x1 x2 : Option Value} {y : Option Value} {v : Int32} (d : decode M.2.1 pc = .ok (.istore_n 3, 1)) (hn : 3 < M.2.2.1) (hc : cat1 (some x2) = true) (K : J g M R Q k n w (pc + 1) (x0 :: x1 :: x2 :: some (.int v) :: t) st) : J g M R Q k n w pc (x0 :: x1 :: x2 :: y :: t) (.int v :: st) := J.istore_n (i := 3) d hn (Or.inr hc) rfl K
theorem J.al3 {x0 x1 x2 : Option Value} {v : Nat} (d : decode M.2.1 pc = .ok (.aload_n 3, 1)) (K : J g M R Q k n w (pc + 1) (x0 :: x1 :: x2 :: some (.ref v) :: t) (.ref v :: st)) : J g M R Q k n w pc (x0 :: x1 :: x2 :: some (.ref v) :: t) st := J.aload_n (i := 3) d rfl K
theorem J.as3 {x0 x1 x2 : Option Value} {y : Option Value} {v : Nat} (d : decode M.2.1 pc = .ok (.astore_n 3, 1)) (hn : 3 < M.2.2.1) (hc : cat1 (some x2) = true) (K : J g M R Q k n w (pc + 1) (x0 :: x1 :: x2 :: some (.ref v) :: t) st) : J g M R Q k n w pc (x0 :: x1 :: x2 :: y :: t) (.ref v :: st) := J.astore_n (i := 3) d hn (Or.inr hc) rfl K
theorem J.ii3 {x0 x1 x2 : Option Value} {z a : Nat} {zi : Int} (d : decode M.2.1 pc = .ok (.iinc 3 zi, 3)) (hz : Int32.ofInt zi = nI z) (hn : 3 < M.2.2.1) (hc : cat1 (some x2) = true) (K : J g M R Q k n w (pc + 3) (x0 :: x1 :: x2 :: some (.int (nI (a + z))) :: t) st) : J g M R Q k n w pc (x0 :: x1 :: x2 :: some (.int (nI a)) :: t) st := J.iincN (i := 3) d hz rfl hn (Or.inr hc) rfl K
theorem J.il4 {x0 x1 x2 x3 : Option Value} {v : Int32} (d : decode M.2.1 pc = .ok (.iload 4, 2)) (K : J g M R Q k n w (pc + 2) (x0 :: x1 :: x2 :: x3 :: some (.int v) :: t) (.int v :: st)) : J g M R Q k n w pc (x0 :: x1 :: x2 :: x3 :: some (.int v) :: t) st := J.iload (i := 4) d rfl K
theorem J.is4 {x0 x1 x2 x3 : Option Value} {y : Option Value} {v : Int32} (d : decode M.2.1 pc = .ok (.istore 4, 2)) (hn : 4 < M.2.2.1) (hc : cat1 (some x3) = true) (K : J g M R Q k n w (pc + 2) (x0 :: x1 :: x2 :: x3 :: some (.int v) :: t) st) : J g M R Q k n w pc (x0 :: x1 :: x2 :: x3 :: y :: t) (.int v :: st) := J.istore (i := 4) d hn (Or.inr hc) rfl K
theorem J.al4 {x0 x1 x2 x3 : Option Value} {v : Nat} (d : decode M.2.1 pc = .ok (.aload 4, 2)) (K : J g M R Q k n w (pc + 2) (x0 :: x1 :: x2 :: x3 :: some (.ref v) :: t) (.ref v :: st)) : J g M R Q k n w pc (x0 :: x1 :: x2 :: x3 :: some (.ref v) :: t) st := J.aload (i := 4) d rfl K
theorem J.as4 {x0 x1 x2 x3 : Option Value} {y : Option Value} {v : Nat} (d : decode M.2.1 pc = .ok (.astore 4, 2)) (hn : 4 < M.2.2.1) (hc : cat1 (some x3) = true) (K : J g M R Q k n w (pc + 2) (x0 :: x1 :: x2 :: x3 :: some (.ref v) :: t) st) : J g M R Q k n w pc (x0 :: x1 :: x2 :: x3 :: y :: t) (.ref v :: st) := J.astore (i := 4) d hn (Or.inr hc) rfl K
theorem J.ii4 {x0 x1 x2 x3 : Option Value} {z a : Nat} {zi : Int} (d : decode M.2.1 pc = .ok (.iinc 4 zi, 3)) (hz : Int32.ofInt zi = nI z) (hn : 4 < M.2.2.1) (hc : cat1 (some x3) = true) (K : J g M R Q k n w (pc + 3) (x0 :: x1 :: x2 :: x3 :: some (.int (nI (a + z))) :: t) st) : J g M R Q k n w pc (x0 :: x1 :: x2 :: x3 :: some (.int (nI a)) :: t) st := J.iincN (i := 4) d hz rfl hn (Or.inr hc) rfl K
theorem J.il5 {x0 x1 x2 x3 x4 : Option Value} {v : Int32} (d : decode M.2.1 pc = .ok (.iload 5, 2)) (K : J g M R Q k n w (pc + 2) (x0 :: x1 :: x2 :: x3 :: x4 :: some (.int v) :: t) (.int v :: st)) : J g M R Q k n w pc (x0 :: x1 :: x2 :: x3 :: x4 :: some (.int v) :: t) st := J.iload (i := 5) d rfl K
theorem J.is5 {x0 x1 x2 x3 x4 : Option Value} {y : Option Value} {v : Int32} (d : decode M.2.1 pc = .ok (.istore 5, 2)) (hn : 5 < M.2.2.1) (hc : cat1 (some x4) = true) (K : J g M R Q k n w (pc + 2) (x0 :: x1 :: x2 :: x3 :: x4 :: some (.int v) :: t) st) : J g M R Q k n w pc (x0 :: x1 :: x2 :: x3 :: x4 :: y :: t) (.int v :: st) := J.istore (i := 5) d hn (Or.inr hc) rfl K
theorem J.al5 {x0 x1 x2 x3 x4 : Option Value} {v : Nat} (d : decode M.2.1 pc = .ok (.aload 5, 2)) (K : J g M R Q k n w (pc + 2) (x0 :: x1 :: x2 :: x3 :: x4 :: some (.ref v) :: t) (.ref v :: st)) : J g M R Q k n w pc (x0 :: x1 :: x2 :: x3 :: x4 :: some (.ref v) :: t) st := J.aload (i := 5) d rfl K
theorem J.as5 {x0 x1 x2 x3 x4 : Option Value} {y : Option Value} {v : Nat} (d : decode M.2.1 pc = .ok (.astore 5, 2)) (hn : 5 < M.2.2.1) (hc : cat1 (some x4) = true) (K : J g M R Q k n w (pc + 2) (x0 :: x1 :: x2 :: x3 :: x4 :: some (.ref v) :: t) st) : J g M R Q k n w pc (x0 :: x1 :: x2 :: x3 :: x4 :: y :: t) (.ref v :: st) := J.astore (i := 5) d hn (Or.inr hc) rfl K
theorem J.ii5 {x0 x1 x2 x3 x4 : Option Value} {z a : Nat} {zi : Int} (d : decode M.2.1 pc = .ok (.iinc 5 zi, 3)) (hz : Int32.ofInt zi = nI z) (hn : 5 < M.2.2.1) (hc : cat1 (some x4) = true) (K : J g M R Q k n w (pc + 3) (x0 :: x1 :: x2 :: x3 :: x4 :: some (.int (nI (a + z))) :: t) st) : J g M R Q k n w pc (x0 :: x1 :: x2 :: x3 :: x4 :: some (.int (nI a)) :: t) st := J.iincN (i := 5) d hz rfl hn (Or.inr hc) rfl K
theorem J.il6 {x0 x1 x2 x3 x4 x5 : Option Value} {v : Int32} (d : decode M.2.1 pc = .ok (.iload 6, 2)) (K : J g M R Q k n w (pc + 2) (x0 :: x1 :: x2 :: x3 :: x4 :: x5 :: some (.int v) :: t) (.int v :: st)) : J g M R Q k n w pc (x0 :: x1 :: x2 :: x3 :: x4 :: x5 :: some (.int v) :: t) st := J.iload (i := 6) d rfl K
theorem J.is6 {x0 x1 x2 x3 x4 x5 : Option Value} {y : Option Value} {v : Int32} (d : decode M.2.1 pc = .ok (.istore 6, 2)) (hn : 6 < M.2.2.1) (hc : cat1 (some x5) = true) (K : J g M R Q k n w (pc + 2) (x0 :: x1 :: x2 :: x3 :: x4 :: x5 :: some (.int v) :: t) st) : J g M R Q k n w pc (x0 :: x1 :: x2 :: x3 :: x4 :: x5 :: y :: t) (.int v :: st) := J.istore (i := 6) d hn (Or.inr hc) rfl K
theorem J.al6 {x0 x1 x2 x3 x4 x5 : Option Value} {v : Nat} (d : decode M.2.1 pc = .ok (.aload 6, 2)) (K : J g M R Q k n w (pc + 2) (x0 :: x1 :: x2 :: x3 :: x4 :: x5 :: some (.ref v) :: t) (.ref v :: st)) : J g M R Q k n w pc (x0 :: x1 :: x2 :: x3 :: x4 :: x5 :: some (.ref v) :: t) st := J.aload (i := 6) d rfl K
theorem J.as6 {x0 x1 x2 x3 x4 x5 : Option Value} {y : Option Value} {v : Nat} (d : decode M.2.1 pc = .ok (.astore 6, 2)) (hn : 6 < M.2.2.1) (hc : cat1 (some x5) = true) (K : J g M R Q k n w (pc + 2) (x0 :: x1 :: x2 :: x3 :: x4 :: x5 :: some (.ref v) :: t) st) : J g M R Q k n w pc (x0 :: x1 :: x2 :: x3 :: x4 :: x5 :: y :: t) (.ref v :: st) := J.astore (i := 6) d hn (Or.inr hc) rfl K
theorem J.ii6 {x0 x1 x2 x3 x4 x5 : Option Value} {z a : Nat} {zi : Int} (d : decode M.2.1 pc = .ok (.iinc 6 zi, 3)) (hz : Int32.ofInt zi = nI z) (hn : 6 < M.2.2.1) (hc : cat1 (some x5) = true) (K : J g M R Q k n w (pc + 3) (x0 :: x1 :: x2 :: x3 :: x4 :: x5 :: some (.int (nI (a + z))) :: t) st) : J g M R Q k n w pc (x0 :: x1 :: x2 :: x3 :: x4 :: x5 :: some (.int (nI a)) :: t) st := J.iincN (i := 6) d hz rfl hn (Or.inr hc) rfl K
theorem J.il7 {x0 x1 x2 x3 x4 x5 x6 : Option Value} {v : Int32} (d : decode M.2.1 pc = .ok (.iload 7, 2)) (K : J g M R Q k n w (pc + 2) (x0 :: x1 :: x2 :: x3 :: x4 :: x5 :: x6 :: some (.int v) :: t) (.int v :: st)) : J g M R Q k n w pc (x0 :: x1 :: x2 :: x3 :: x4 :: x5 :: x6 :: some (.int v) :: t) st := J.iload (i := 7) d rfl K
theorem J.is7 {x0 x1 x2 x3 x4 x5 x6 : Option Value} {y : Option Value} {v : Int32} (d : decode M.2.1 pc = .ok (.istore 7, 2)) (hn : 7 < M.2.2.1) (hc : cat1 (some x6) = true) (K : J g M R Q k n w (pc + 2) (x0 :: x1 :: x2 :: x3 :: x4 :: x5 :: x6 :: some (.int v) :: t) st) : J g M R Q k n w pc (x0 :: x1 :: x2 :: x3 :: x4 :: x5 :: x6 :: y :: t) (.int v :: st) := J.istore (i := 7) d hn (Or.inr hc) rfl K
theorem J.al7 {x0 x1 x2 x3 x4 x5 x6 : Option Value} {v : Nat} (d : decode M.2.1 pc = .ok (.aload 7, 2)) (K : J g M R Q k n w (pc + 2) (x0 :: x1 :: x2 :: x3 :: x4 :: x5 :: x6 :: some (.ref v) :: t) (.ref v :: st)) : J g M R Q k n w pc (x0 :: x1 :: x2 :: x3 :: x4 :: x5 :: x6 :: some (.ref v) :: t) st := J.aload (i := 7) d rfl K
theorem J.as7 {x0 x1 x2 x3 x4 x5 x6 : Option Value} {y : Option Value} {v : Nat} (d : decode M.2.1 pc = .ok (.astore 7, 2)) (hn : 7 < M.2.2.1) (hc : cat1 (some x6) = true) (K : J g M R Q k n w (pc + 2) (x0 :: x1 :: x2 :: x3 :: x4 :: x5 :: x6 :: some (.ref v) :: t) st) : J g M R Q k n w pc (x0 :: x1 :: x2 :: x3 :: x4 :: x5 :: x6 :: y :: t) (.ref v :: st) := J.astore (i := 7) d hn (Or.inr hc) rfl K
theorem J.ii7 {x0 x1 x2 x3 x4 x5 x6 : Option Value} {z a : Nat} {zi : Int} (d : decode M.2.1 pc = .ok (.iinc 7 zi, 3)) (hz : Int32.ofInt zi = nI z) (hn : 7 < M.2.2.1) (hc : cat1 (some x6) = true) (K : J g M R Q k n w (pc + 3) (x0 :: x1 :: x2 :: x3 :: x4 :: x5 :: x6 :: some (.int (nI (a + z))) :: t) st) : J g M R Q k n w pc (x0 :: x1 :: x2 :: x3 :: x4 :: x5 :: x6 :: some (.int (nI a)) :: t) st := J.iincN (i := 7) d hz rfl hn (Or.inr hc) rfl K
theorem J.il8 {x0 x1 x2 x3 x4 x5 x6 x7 : Option Value} {v : Int32} (d : decode M.2.1 pc = .ok (.iload 8, 2)) (K : J g M R Q k n w (pc + 2) (x0 :: x1 :: x2 :: x3 :: x4 :: x5 :: x6 :: x7 :: some (.int v) :: t) (.int v :: st)) : J g M R Q k n w pc (x0 :: x1 :: x2 :: x3 :: x4 :: x5 :: x6 :: x7 :: some (.int v) :: t) st := J.iload (i := 8) d rfl K
theorem J.is8 {x0 x1 x2 x3 x4 x5 x6 x7 : Option Value} {y : Option Value} {v : Int32} (d : decode M.2.1 pc = .ok (.istore 8, 2)) (hn : 8 < M.2.2.1) (hc : cat1 (some x7) = true) (K : J g M R Q k n w (pc + 2) (x0 :: x1 :: x2 :: x3 :: x4 :: x5 :: x6 :: x7 :: some (.int v) :: t) st) : J g M R Q k n w pc (x0 :: x1 :: x2 :: x3 :: x4 :: x5 :: x6 :: x7 :: y :: t) (.int v :: st) := J.istore (i := 8) d hn (Or.inr hc) rfl K
theorem J.al8 {x0 x1 x2 x3 x4 x5 x6 x7 : Option Value} {v : Nat} (d : decode M.2.1 pc = .ok (.aload 8, 2)) (K : J g M R Q k n w (pc + 2) (x0 :: x1 :: x2 :: x3 :: x4 :: x5 :: x6 :: x7 :: some (.ref v) :: t) (.ref v :: st)) : J g M R Q k n w pc (x0 :: x1 :: x2 :: x3 :: x4 :: x5 :: x6 :: x7 :: some (.ref v) :: t) st := J.aload (i := 8) d rfl K
theorem J.as8 {x0 x1 x2 x3 x4 x5 x6 x7 : Option Value} {y : Option Value} {v : Nat} (d : decode M.2.1 pc = .ok (.astore 8, 2)) (hn : 8 < M.2.2.1) (hc : cat1 (some x7) = true) (K : J g M R Q k n w (pc + 2) (x0 :: x1 :: x2 :: x3 :: x4 :: x5 :: x6 :: x7 :: some (.ref v) :: t) st) : J g M R Q k n w pc (x0 :: x1 :: x2 :: x3 :: x4 :: x5 :: x6 :: x7 :: y :: t) (.ref v :: st) := J.astore (i := 8) d hn (Or.inr hc) rfl K
theorem J.ii8 {x0 x1 x2 x3 x4 x5 x6 x7 : Option Value} {z a : Nat} {zi : Int} (d : decode M.2.1 pc = .ok (.iinc 8 zi, 3)) (hz : Int32.ofInt zi = nI z) (hn : 8 < M.2.2.1) (hc : cat1 (some x7) = true) (K : J g M R Q k n w (pc + 3) (x0 :: x1 :: x2 :: x3 :: x4 :: x5 :: x6 :: x7 :: some (.int (nI (a + z))) :: t) st) : J g M R Q k n w pc (x0 :: x1 :: x2 :: x3 :: x4 :: x5 :: x6 :: x7 :: some (.int (nI a)) :: t) st := J.iincN (i := 8) d hz rfl hn (Or.inr hc) rfl K
end PT
theorem kI_0 : Int32.ofInt 0 = nI 0 := by decide
theorem kI_1 : Int32.ofInt 1 = nI 1 := by decide
theorem kI_2 : Int32.ofInt 2 = nI 2 := by decide
theorem kI_3 : Int32.ofInt 3 = nI 3 := by decide
theorem kI_4 : Int32.ofInt 4 = nI 4 := by decide
theorem kI_5 : Int32.ofInt 5 = nI 5 := by decide
theorem kb_6 : (Int8.ofInt 6).toInt32 = nI 6 := by decide
theorem kb_7 : (Int8.ofInt 7).toInt32 = nI 7 := by decide
theorem kb_8 : (Int8.ofInt 8).toInt32 = nI 8 := by decide
theorem kb_9 : (Int8.ofInt 9).toInt32 = nI 9 := by decide
theorem kb_10 : (Int8.ofInt 10).toInt32 = nI 10 := by decide
theorem kb_11 : (Int8.ofInt 11).toInt32 = nI 11 := by decide
theorem kb_12 : (Int8.ofInt 12).toInt32 = nI 12 := by decide
theorem kb_16 : (Int8.ofInt 16).toInt32 = nI 16 := by decide
theorem kb_19 : (Int8.ofInt 19).toInt32 = nI 19 := by decide
theorem kb_20 : (Int8.ofInt 20).toInt32 = nI 20 := by decide
theorem kb_26 : (Int8.ofInt 26).toInt32 = nI 26 := by decide
theorem kb_31 : (Int8.ofInt 31).toInt32 = nI 31 := by decide
theorem kb_32 : (Int8.ofInt 32).toInt32 = nI 32 := by decide
theorem kb_39 : (Int8.ofInt 39).toInt32 = nI 39 := by decide
theorem kb_40 : (Int8.ofInt 40).toInt32 = nI 40 := by decide
theorem kb_41 : (Int8.ofInt 41).toInt32 = nI 41 := by decide
theorem kb_44 : (Int8.ofInt 44).toInt32 = nI 44 := by decide
theorem kb_48 : (Int8.ofInt 48).toInt32 = nI 48 := by decide
theorem kb_49 : (Int8.ofInt 49).toInt32 = nI 49 := by decide
theorem kb_50 : (Int8.ofInt 50).toInt32 = nI 50 := by decide
theorem kb_51 : (Int8.ofInt 51).toInt32 = nI 51 := by decide
theorem kb_52 : (Int8.ofInt 52).toInt32 = nI 52 := by decide
theorem kb_53 : (Int8.ofInt 53).toInt32 = nI 53 := by decide
theorem kb_54 : (Int8.ofInt 54).toInt32 = nI 54 := by decide
theorem kb_55 : (Int8.ofInt 55).toInt32 = nI 55 := by decide
theorem kb_56 : (Int8.ofInt 56).toInt32 = nI 56 := by decide
theorem kb_57 : (Int8.ofInt 57).toInt32 = nI 57 := by decide
theorem kb_58 : (Int8.ofInt 58).toInt32 = nI 58 := by decide
theorem kb_60 : (Int8.ofInt 60).toInt32 = nI 60 := by decide
theorem kb_63 : (Int8.ofInt 63).toInt32 = nI 63 := by decide
theorem kb_64 : (Int8.ofInt 64).toInt32 = nI 64 := by decide
theorem kb_72 : (Int8.ofInt 72).toInt32 = nI 72 := by decide
theorem kb_74 : (Int8.ofInt 74).toInt32 = nI 74 := by decide
theorem kb_75 : (Int8.ofInt 75).toInt32 = nI 75 := by decide
theorem kb_91 : (Int8.ofInt 91).toInt32 = nI 91 := by decide
theorem kb_93 : (Int8.ofInt 93).toInt32 = nI 93 := by decide
theorem kb_99 : (Int8.ofInt 99).toInt32 = nI 99 := by decide
theorem kb_100 : (Int8.ofInt 100).toInt32 = nI 100 := by decide
theorem kb_112 : (Int8.ofInt 112).toInt32 = nI 112 := by decide
theorem kb_114 : (Int8.ofInt 114).toInt32 = nI 114 := by decide
theorem kb_115 : (Int8.ofInt 115).toInt32 = nI 115 := by decide
theorem kb_117 : (Int8.ofInt 117).toInt32 = nI 117 := by decide
theorem kb_120 : (Int8.ofInt 120).toInt32 = nI 120 := by decide
theorem kb_121 : (Int8.ofInt 121).toInt32 = nI 121 := by decide
theorem kc_192 : (Int16.ofInt 192).toInt32 = nI 192 := by decide
theorem kc_200 : (Int16.ofInt 200).toInt32 = nI 200 := by decide
theorem kc_352 : (Int16.ofInt 352).toInt32 = nI 352 := by decide
theorem kc_2464 : (Int16.ofInt 2464).toInt32 = nI 2464 := by decide
theorem kc_9999 : (Int16.ofInt 9999).toInt32 = nI 9999 := by decide
theorem kc_6400 : (Int16.ofInt 6400).toInt32 = nI 6400 := by decide
theorem kc_120 : (Int16.ofInt 120).toInt32 = nI 120 := by decide
theorem kc_60 : (Int16.ofInt 60).toInt32 = nI 60 := by decide
theorem kc_2816 : (Int16.ofInt 2816).toInt32 = nI 2816 := by decide
theorem kc_128 : (Int16.ofInt 128).toInt32 = nI 128 := by decide
theorem kc_132 : (Int16.ofInt 132).toInt32 = nI 132 := by decide
def lsub : List (Option Value) → List (Option Value) → Prop
  | [], _ => True
  | none :: a, _ :: b => lsub a b
  | some x :: a, some y :: b => x = y ∧ lsub a b
  | _, _ => False
theorem lsub_at : ∀ (a b : List (Option Value)), lsub a b → ∀ (t : Nat) (v : Value), a[t]? = some (some v) → b[t]? = some (some v)
  | [], b, _, t, v, h => by simp at h
  | none :: a, [], h, _, _, _ => h.elim
  | some x :: a, [], h, _, _, _ => h.elim
  | none :: a, y :: b, h, t, v, ht => by
    cases t with
    | zero => simp at ht
    | succ t =>
      have h9 : lsub a b := h
      simpa using lsub_at a b h9 t v (by simpa using ht)
  | some x :: a, none :: b, h, _, _, _ => h.elim
  | some x :: a, some y :: b, h, t, v, ht => by
    obtain ⟨rfl, h⟩ := h
    cases t with
    | zero => simpa using ht
    | succ t => simpa using lsub_at a b h t v (by simpa using ht)
section PU
variable {g : GP} {M : MI} {R : Room} {Q : QT} {k n pc : Nat} {w : va_W} {st : List Value} {l : List (Option Value)}
theorem J.subL {l' : List (Option Value)} (h : lsub l' l) (K : J g M R Q k n w pc l' st) : J g M R Q k n w pc l st := K.sub (lsub_at l' l h)
theorem J.subR {l' : List (Option Value)} (K : J g M R Q k n w pc l' st) (h : lsub l' l) : J g M R Q k n w pc l st := K.sub (lsub_at l' l h)
/-- a truth value on the stack -/
theorem J.if_eqB {p : Prop} [Decidable p] {off : Int} {tgt : Nat} (d : decode M.2.1 pc = .ok (.ifCond .eq off, 3)) (ht : (pc : Int) + off = (tgt : Int)) (kt : ¬ p → J g M R Q k n w tgt l st) (kf : p → J g M R Q k n w (pc + 3) l st) : J g M R Q k n w pc l (.int (if p then nI 1 else nI 0) :: st) := by
  by_cases h : p
  · rw [if_pos h]; exact J.if_eqN d ht (by decide) (fun z => absurd z (by decide)) (fun _ => kf h)
  · rw [if_neg h]; exact J.if_eqN d ht (by decide) (fun _ => kt h) (fun z => absurd z (by decide))
theorem J.if_neB {p : Prop} [Decidable p] {off : Int} {tgt : Nat} (d : decode M.2.1 pc = .ok (.ifCond .ne off, 3)) (ht : (pc : Int) + off = (tgt : Int)) (kt : p → J g M R Q k n w tgt l st) (kf : ¬ p → J g M R Q k n w (pc + 3) l st) : J g M R Q k n w pc l (.int (if p then nI 1 else nI 0) :: st) := by
  by_cases h : p
  · rw [if_pos h]; exact J.if_neN d ht (by decide) (fun _ => kt h) (fun z => absurd z (by decide))
  · rw [if_neg h]; exact J.if_neN d ht (by decide) (fun z => absurd z (by decide)) (fun _ => kf h)
end PU
theorem i2cN {a : Nat} (h : a < 65536) : ((nI a).toUInt32 % 65536).toInt32 = nI a := by
  rw [pk_char, pk_tn (by omega), Nat.mod_eq_of_lt h]
theorem nar_c {a : Nat} (h : a < 65536) : vp_nar .char (nI a) = nI a := by
  unfold vp_nar
  rw [(pk_charN h).1]
